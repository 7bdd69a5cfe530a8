import java.lang.annotation.ElementType;
import java.lang.annotation.Retention;
import java.lang.annotation.RetentionPolicy;
import java.lang.annotation.Target;

/** Which sentence of the document a test is for; SentencesTest looks whether it stands there. */
@Retention(RetentionPolicy.RUNTIME)
@Target(ElementType.METHOD)
@interface Sentence {
    /** "Terms", "Promise 1" and so on: a heading of the document. */
    String of();

    /** Its words, so many that they stand there only once. */
    String says();
}
