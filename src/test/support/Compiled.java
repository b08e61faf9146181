import java.io.ByteArrayOutputStream;
import java.io.IOException;
import java.io.OutputStream;
import java.io.StringWriter;
import java.net.URI;
import java.util.HashMap;
import java.util.List;
import java.util.Map;
import javax.tools.FileObject;
import javax.tools.ForwardingJavaFileManager;
import javax.tools.JavaCompiler;
import javax.tools.JavaFileManager;
import javax.tools.JavaFileObject;
import javax.tools.SimpleJavaFileObject;
import javax.tools.StandardJavaFileManager;
import javax.tools.ToolProvider;

/** Compiles a Java text while a test runs, and loads its classes; nothing of it goes to a file. */
final class Compiled extends ClassLoader {
    private final Map<String, ByteArrayOutputStream> made = new HashMap<>();

    /** The text is that of the class; it sees the classes that the test itself sees. */
    Compiled(ClassLoader parent, String name, String text) throws IOException {
        super(parent);
        JavaCompiler compiler = ToolProvider.getSystemJavaCompiler();
        List<String> options = List.of("-nowarn", "-cp", System.getProperty("java.class.path"));
        StringWriter faults = new StringWriter();
        try (StandardJavaFileManager files = compiler.getStandardFileManager(null, null, null)) {
            List<Text> texts = List.of(new Text(name, text));
            if (!compiler.getTask(faults, new Keeper(files), null, options, null, texts).call()) {
                throw new IllegalStateException("does not compile: " + faults);
            }
        }
    }

    @Override
    protected Class<?> findClass(String name) throws ClassNotFoundException {
        ByteArrayOutputStream bytes = made.get(name);
        if (bytes == null) {
            throw new ClassNotFoundException(name);
        }
        return defineClass(name, bytes.toByteArray(), 0, bytes.size());
    }

    private static final class Text extends SimpleJavaFileObject {
        private final String text;

        Text(String name, String text) {
            super(URI.create("text:///" + name + Kind.SOURCE.extension), Kind.SOURCE);
            this.text = text;
        }

        @Override
        public CharSequence getCharContent(boolean ignoreEncodingErrors) {
            return text;
        }
    }

    private static final class Bytes extends SimpleJavaFileObject {
        private final OutputStream bytes;

        Bytes(String name, OutputStream bytes) {
            super(URI.create("bytes:///" + name + Kind.CLASS.extension), Kind.CLASS);
            this.bytes = bytes;
        }

        @Override
        public OutputStream openOutputStream() {
            return bytes;
        }
    }

    private final class Keeper extends ForwardingJavaFileManager<JavaFileManager> {
        Keeper(JavaFileManager files) {
            super(files);
        }

        @Override
        public JavaFileObject getJavaFileForOutput(Location place, String name, JavaFileObject.Kind kind, FileObject near) {
            ByteArrayOutputStream bytes = new ByteArrayOutputStream();
            made.put(name, bytes);
            return new Bytes(name, bytes);
        }
    }
}
