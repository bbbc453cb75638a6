import java.lang.annotation.ElementType;
import java.lang.annotation.Retention;
import java.lang.annotation.RetentionPolicy;
import java.lang.annotation.Target;

/** The sentence, or the part of one, of ../shared/DOC.md that a test stands for: it fails if that does not hold. */
@Retention(RetentionPolicy.RUNTIME)
@Target(ElementType.METHOD)
@interface Sentence {
    /** The heading under which the sentence stands. */
    String in();

    /** Its words, as they stand there. */
    String says();
}
