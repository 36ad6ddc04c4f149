import java.lang.annotation.ElementType;
import java.lang.annotation.Retention;
import java.lang.annotation.RetentionPolicy;
import java.lang.annotation.Target;

/** The words of the document that a test is of: a promise's, or those of the terms that it uses. */
@Retention(RetentionPolicy.RUNTIME)
@Target(ElementType.METHOD)
@interface Says {
    /** For words of the terms that hold of all promises. */
    int OF_ALL = 0;

    int promise();

    String[] words();
}
