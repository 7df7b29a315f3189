import java.lang.annotation.ElementType;
import java.lang.annotation.Retention;
import java.lang.annotation.RetentionPolicy;
import java.lang.annotation.Target;

/**
 * Stands beside a test: the promise it is of, and the words of the document
 * that it looks at, taken from that promise or else from the terms.
 * DocumentTest sees that they stand there, and that no words are without a test.
 */
@Retention(RetentionPolicy.RUNTIME)
@Target(ElementType.METHOD)
@interface Says {
    int promise();

    String[] words();
}
