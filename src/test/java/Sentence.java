import java.lang.annotation.ElementType;
import java.lang.annotation.Retention;
import java.lang.annotation.RetentionPolicy;
import java.lang.annotation.Target;

/**
 * The words of the document that a test is for, as they stand there. In which section they stand,
 * the test's name begins with: promise05_ is Promise 5, terms_ the Terms, whatItIs_ What it is.
 */
@Retention(RetentionPolicy.RUNTIME)
@Target(ElementType.METHOD)
@interface Sentence {
    String value();
}
