import com.sun.source.util.JavacTask;
import java.net.URI;
import java.nio.file.Path;
import java.util.List;
import javax.tools.Diagnostic;
import javax.tools.DiagnosticCollector;
import javax.tools.JavaCompiler;
import javax.tools.JavaFileObject;
import javax.tools.SimpleJavaFileObject;
import javax.tools.ToolProvider;

/** A source that is given as a text, and the compiler's work on it. */
final class Compiled {
    private final DiagnosticCollector<JavaFileObject> diagnostics = new DiagnosticCollector<>();
    private final JavacTask task;

    /** What is made goes into the directory; classes that the source needs are found on the tests' class path. */
    Compiled(String name, String source, Path directory) {
        JavaCompiler compiler = ToolProvider.getSystemJavaCompiler();
        List<String> options = List.of("-proc:none", "-d", directory.toString());
        task = (JavacTask) compiler.getTask(null, null, diagnostics, options, null, List.of(new Source(name, source)));
    }

    JavacTask task() {
        return task;
    }

    /** Empty if the compiler found none. */
    String errors() {
        StringBuilder out = new StringBuilder();
        for (Diagnostic<?> diagnostic : diagnostics.getDiagnostics()) {
            if (diagnostic.getKind() == Diagnostic.Kind.ERROR) {
                out.append(diagnostic).append(' ');
            }
        }
        return out.toString();
    }

    private static final class Source extends SimpleJavaFileObject {
        private final String source;

        Source(String name, String source) {
            super(URI.create("text:///" + name + ".java"), Kind.SOURCE);
            this.source = source;
        }

        @Override
        public CharSequence getCharContent(boolean ignoreErrors) {
            return source;
        }
    }
}
