import java.lang.annotation.ElementType;
import java.lang.annotation.Retention;
import java.lang.annotation.RetentionPolicy;
import java.lang.annotation.Target;

/** Says which sentence of the document a boundary test stands for. */
@Retention(RetentionPolicy.RUNTIME)
@Target(ElementType.METHOD)
@interface Sentence {
    /** The number of the promise; 0 for what the document says before promise 1. */
    int promise();

    /** The sentence, or the part of it that names the boundary case, in the document's words. */
    String value();
}
