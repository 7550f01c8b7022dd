import java.lang.annotation.ElementType;
import java.lang.annotation.Retention;
import java.lang.annotation.RetentionPolicy;
import java.lang.annotation.Target;

/**
 * The document's words that a test of an edge holds the class to. The test's name begins with the number of its
 * promise (p03_..); the words stand under that promise's heading, or ahead of all promises (among the Terms).
 */
@Retention(RetentionPolicy.RUNTIME)
@Target(ElementType.METHOD)
@interface Says {
    String value();
}
