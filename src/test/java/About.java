import java.lang.annotation.ElementType;
import java.lang.annotation.Retention;
import java.lang.annotation.RetentionPolicy;
import java.lang.annotation.Target;

/**
 * Marks a test with the words of the document that it is about: those of a promise, or, with the
 * promise 0, those of its sections "What it is" and "Terms". SentenceTest looks the words up.
 */
@Retention(RetentionPolicy.RUNTIME)
@Target(ElementType.METHOD)
@interface About {
    int promise() default 0;

    String words();
}
