import java.lang.annotation.ElementType;
import java.lang.annotation.Retention;
import java.lang.annotation.RetentionPolicy;
import java.lang.annotation.Target;

/** Marks a test with the promise, and with the words of the document, that it looks at. */
@Retention(RetentionPolicy.RUNTIME)
@Target(ElementType.METHOD)
@interface Promise {
    int number();

    /** As they stand in the promise's own section, in 'Terms' or in 'What it is'. */
    String says();
}
