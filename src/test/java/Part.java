import java.lang.annotation.ElementType;
import java.lang.annotation.Retention;
import java.lang.annotation.RetentionPolicy;
import java.lang.annotation.Target;

/** The part of the document that the tests of a class are about, by its heading. */
@Retention(RetentionPolicy.RUNTIME)
@Target(ElementType.TYPE)
@interface Part {
    String value();
}
