import java.io.IOException;
import java.lang.reflect.Constructor;
import java.lang.reflect.Field;
import java.lang.reflect.Method;
import java.lang.reflect.Modifier;
import java.nio.charset.StandardCharsets;
import java.nio.file.Files;
import java.nio.file.Path;
import java.nio.file.Paths;
import java.util.Set;
import java.util.TreeSet;
import java.util.regex.Matcher;
import java.util.regex.Pattern;

/** The public face of the document, and of LANGUAGE.md what can be seen in the source. */
public final class LanguageTest {
  private static final String[] FACE = {
    "int lamps 1", "int news 1", "int oil 2", "int broken 2", "int read 2", "int of 1", "int feed 5",
    "int end 1", "int row 0", "int torn 0", "int law 0", "int fault 0", "int learn 1", "int next 3",
    "int ways 2", "int lasts 1", "long mean 2", "int reached 1", "int failing 1", "int hurts 1",
    "int codes 3", "int make 3", "int send 2", "int dawn 0", "int log 1", "int burnt 0", "int trail 0",
    "int judge 1", "long rows 3", "long could 5", "int maybe 2", "int safe 0", "int spy 1",
    "int want 1", "int unwant 0", "int cheap 1", "int plan 1", "int night 3", "int drawn 1",
    "int image 1", "int back 1", "int count 1", "int status 0"};
  private static final String[] RULED_OUT = {
    "\\bthrow\\b", "\\btry\\b", "\\bcatch\\b", "\\bsynchronized\\b", "\\bassert\\b", "->", "::",
    "\\bstatic\\s*\\{", "\\bpackage\\b", "\\bprotected\\b", "Exact\\b", "\\bSystem\\.(?!arraycopy)",
    "\\bThread\\b", "\\bRandom\\b", "\\bwhile\\s*\\(true", "\\bfor\\s*\\(;;", "\\bvar\\b",
    "\\bdouble\\b", "\\bfloat\\b", "\\bhashCode\\b", "\\btoString\\b", "\\[\\]\\s*\\[\\]\\s*\\["};

  public static void main(String[] args) throws IOException {
    face();
    source();
    Due.close();
  }

  private static void face() {
    Set<String> due = new TreeSet<>(Set.of(FACE));
    Set<String> publicNames = new TreeSet<>();
    for (Method m : LitCoast.class.getDeclaredMethods()) {
      if (Modifier.isPublic(m.getModifiers())) {
        String told = m.getReturnType() + " " + m.getName() + " " + m.getParameterCount();
        Due.so("face: " + told, due.remove(told) && !Modifier.isStatic(m.getModifiers()));
        publicNames.add(m.getName());
      } else {
        Due.so("face: private " + m.getName(), Modifier.isPrivate(m.getModifiers()));
      }
    }
    Due.so("face: there is no " + due, due.isEmpty());
    for (Field f : LitCoast.class.getDeclaredFields()) {
      boolean named = f.getName().equals("NONE");
      Due.so("face: field " + f.getName(),
          named ? Modifier.isPublic(f.getModifiers()) : Modifier.isPrivate(f.getModifiers()));
    }
    for (Constructor<?> c : LitCoast.class.getDeclaredConstructors()) {
      Due.so("face: constructor", c.getParameterCount() == 0 && Modifier.isPublic(c.getModifiers()));
    }
    Due.so("face: final", Modifier.isFinal(LitCoast.class.getModifiers()));
    inside(publicNames);
  }

  private static void inside(Set<String> publicNames) {
    Class<?>[] classes = LitCoast.class.getDeclaredClasses();
    Due.so("rule 11: classes", classes.length < 12);
    for (Class<?> c : classes) {
      Due.so("rule 2: " + c.getName(), Modifier.isStatic(c.getModifiers()));
      for (Method m : c.getDeclaredMethods()) {
        Due.so("rule 1: the name " + m.getName(), !publicNames.contains(m.getName()));
        Due.so("rule 11: parameters of " + m.getName(), m.getParameterCount() <= 7);
      }
      int fields = 0;
      for (Field f : c.getDeclaredFields()) {
        fields += Modifier.isStatic(f.getModifiers()) ? 0 : 1;
        Due.so("rule 5: " + f.getName(),
            !Modifier.isStatic(f.getModifiers()) || Modifier.isFinal(f.getModifiers()));
      }
      Due.so("rule 11: fields of " + c.getName(), fields <= 20);
    }
  }

  private static void source() throws IOException {
    Path path = Paths.get(System.getProperty("project.root", "."), "src/main/java/LitCoast.java");
    String text = new String(Files.readAllBytes(path), StandardCharsets.ISO_8859_1);
    String bare = text.replaceAll("(?s)/\\*.*?\\*/", "").replaceAll("//[^\n]*", "");
    for (String ruledOut : RULED_OUT) {
      Matcher m = Pattern.compile(ruledOut).matcher(bare);
      Due.so("source has " + ruledOut, !m.find());
    }
    Matcher imports = Pattern.compile("import ([^;]*);").matcher(bare);
    while (imports.find()) {
      Due.so("import " + imports.group(1), imports.group(1).equals("java.util.Arrays"));
    }
    longMethods(text);
  }

  /** Methods begin and end at the depth of two or four blanks. */
  private static void longMethods(String text) {
    String[] lines = text.split("\n");
    for (int i = 0; i < lines.length; i++) {
      Matcher m = Pattern.compile("( {2}| {4})\\S.*\\) \\{").matcher(lines[i]);
      if (m.matches()) {
        int end = i;
        while (end < lines.length && !lines[end].equals(m.group(1) + "}")) {
          end++;
        }
        Due.so("rule 11: lines of " + lines[i].trim(), end - i < 60);
      }
    }
  }
}
