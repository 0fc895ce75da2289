import java.io.ByteArrayOutputStream;
import java.io.IOException;
import java.io.InputStream;
import java.io.OutputStream;
import java.io.StringWriter;
import java.net.URI;
import java.util.HashMap;
import java.util.List;
import java.util.Map;
import javax.tools.FileObject;
import javax.tools.ForwardingJavaFileManager;
import javax.tools.JavaCompiler;
import javax.tools.JavaFileManager;
import javax.tools.JavaFileObject;
import javax.tools.SimpleJavaFileObject;
import javax.tools.StandardJavaFileManager;
import javax.tools.ToolProvider;

/** The tests of sentences on a changed copy of the class, both in a loader of their own. */
final class Copy extends ClassLoader {
  private final Map<String, ByteArrayOutputStream> compiled = new HashMap<>();

  Copy(String source) throws IOException {
    super(Copy.class.getClassLoader());
    JavaCompiler compiler = ToolProvider.getSystemJavaCompiler();
    StringWriter said = new StringWriter();
    try (StandardJavaFileManager files = compiler.getStandardFileManager(null, null, null)) {
      List<String> options = List.of("-proc:none", "-implicit:none", "-nowarn");
      if (!compiler.getTask(said, new Kept(files), null, options, null, List.of(new Text(source))).call()) {
        throw new IOException("it can't be compiled: " + said);
      }
    }
  }

  /** What a test finds wrong with this copy. */
  List<?> wrongBy(String test) throws ReflectiveOperationException {
    Class<?> tests = loadClass("SentencesTest");
    return (List<?>) tests.getDeclaredMethod("wrongBy", String.class).invoke(null, test);
  }

  @Override
  protected Class<?> loadClass(String name, boolean resolve) throws ClassNotFoundException {
    synchronized (getClassLoadingLock(name)) {
      Class<?> loaded = findLoadedClass(name);
      if (loaded != null) {
        return loaded;
      }
      byte[] bytes = bytes(name);
      return bytes == null ? super.loadClass(name, resolve) : defineClass(name, bytes, 0, bytes.length);
    }
  }

  /** Of the copy, or of a test; null for the library's classes. */
  private byte[] bytes(String name) throws ClassNotFoundException {
    if (compiled.containsKey(name)) {
      return compiled.get(name).toByteArray();
    }
    if (name.contains(".")) {
      return null;
    }
    try (InputStream in = getParent().getResourceAsStream(name + ".class")) {
      return in == null ? null : in.readAllBytes();
    } catch (IOException e) {
      throw new ClassNotFoundException(name, e);
    }
  }

  private static final class Text extends SimpleJavaFileObject {
    private final String text;

    Text(String text) {
      super(URI.create("string:///CrankBranches.java"), Kind.SOURCE);
      this.text = text;
    }

    @Override
    public CharSequence getCharContent(boolean ignoreErrors) {
      return text;
    }
  }

  /** Keeps what is compiled, in place of writing it to files. */
  private final class Kept extends ForwardingJavaFileManager<JavaFileManager> {
    Kept(JavaFileManager files) {
      super(files);
    }

    @Override
    public JavaFileObject getJavaFileForOutput(Location place, String name, JavaFileObject.Kind kind, FileObject of) {
      return new SimpleJavaFileObject(URI.create("bytes:///" + name), kind) {
        @Override
        public OutputStream openOutputStream() {
          ByteArrayOutputStream out = new ByteArrayOutputStream();
          compiled.put(name, out);
          return out;
        }
      };
    }
  }
}
