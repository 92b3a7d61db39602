import java.lang.annotation.ElementType;
import java.lang.annotation.Retention;
import java.lang.annotation.RetentionPolicy;
import java.lang.annotation.Target;

/** Which sentence of the document a test holds the class to. */
@Retention(RetentionPolicy.RUNTIME)
@Target(ElementType.METHOD)
@interface Holds {
    /** The promise by whose call the sentence is seen, 0 for the document's opening. */
    int promise();

    /** Which of the document's terms the sentence stands in, 0 if it is the promise's own. */
    int term() default 0;

    /** The sentence, or the part of it that names the case, in the document's own words. */
    String says();
}
