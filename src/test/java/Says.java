import java.lang.annotation.Retention;
import java.lang.annotation.RetentionPolicy;

/** Marks a test of one boundary case: the heading in the document and the words that name it. */
@Retention(RetentionPolicy.RUNTIME)
@interface Says {
    String under();

    String words();
}
