import java.io.IOException;
import java.lang.reflect.Array;
import java.lang.reflect.Constructor;
import java.lang.reflect.Field;
import java.lang.reflect.Method;
import java.lang.reflect.Modifier;
import java.nio.file.Files;
import java.nio.file.Path;
import java.util.ArrayDeque;
import java.util.Arrays;
import java.util.Collections;
import java.util.Deque;
import java.util.IdentityHashMap;
import java.util.Set;
import java.util.TreeSet;
import java.util.regex.Matcher;
import java.util.regex.Pattern;

/** The face of the document, and those rules of LANGUAGE.md that a look at the text can hold. */
public final class LoopTellsLanguage {
  private static final String[] FACE = {
    "boolean change(int,int)", "boolean even(int,boolean)", "boolean price(int,int)",
    "boolean silent()", "boolean watch(int,int)", "boolean word(int,int)", "int classOf(int,int)",
    "int classes(int)", "int cure(int)", "int look(int)", "int most()", "int order(int)",
    "int pair(int)", "int reached()", "int run(int,int,int)", "int seen(int,int,int,int)",
    "int tellers()", "void clear()"
  };
  private static final String[] BARRED = {
    "\\b(throw|throws|try|catch|finally|synchronized|assert|import|package)\\b",
    "->", "::", "\\bExact\\b", "\\w+Exact\\(", "\\bprotected\\b", "\\bstatic\\s*\\{", "\\bRandom\\b",
    "\\bSystem\\.(?!arraycopy)", "\\bThread\\b", "\\bObject\\b"
  };

  private static int wrong = 0;

  private static void due(String what, boolean holds) {
    if (!holds) {
      wrong++;
      System.out.println("does not hold: " + what);
    }
  }

  private static void checkFace() {
    Set<String> found = new TreeSet<>();
    Set<String> names = new TreeSet<>();
    for (Method m : LoopTells.class.getDeclaredMethods()) {
      if (Modifier.isPrivate(m.getModifiers()) || m.isSynthetic()) {
        continue;
      }
      due(m.getName() + " is public", Modifier.isPublic(m.getModifiers()));
      StringBuilder text = new StringBuilder(m.getReturnType() + " " + m.getName() + "(");
      for (Class<?> type : m.getParameterTypes()) {
        text.append(text.charAt(text.length() - 1) == '(' ? "" : ",").append(type);
      }
      found.add(text.append(")").toString());
      names.add(m.getName());
    }
    due("the methods are " + found, found.equals(new TreeSet<>(Arrays.asList(FACE))));
    checkFields();
    checkPrivateNames(LoopTells.class, names);
    for (Class<?> inside : LoopTells.class.getDeclaredClasses()) {
      due(inside + " is static", Modifier.isStatic(inside.getModifiers()));
      checkPrivateNames(inside, names);
    }
    Constructor<?>[] constructors = LoopTells.class.getDeclaredConstructors();
    due("one constructor", constructors.length == 1 && constructors[0].getParameterCount() == 0);
    due("public and final", LoopTells.class.getModifiers() == (Modifier.PUBLIC | Modifier.FINAL));
  }

  private static void checkFields() {
    for (Field f : LoopTells.class.getDeclaredFields()) {
      int flags = f.getModifiers();
      boolean none = f.getName().equals("NONE") && f.getType() == int.class;
      due(f + " is private, or NONE", none ? Modifier.isPublic(flags) : Modifier.isPrivate(flags));
      due(f + " is final, if static", !Modifier.isStatic(flags) || Modifier.isFinal(flags));
    }
  }

  private static void checkPrivateNames(Class<?> type, Set<String> names) {
    for (Method m : type.getDeclaredMethods()) {
      boolean face = Modifier.isPublic(m.getModifiers());
      due(m + " bears a name of the face", face || !names.contains(m.getName()));
      due(m + " takes seven parameters at most", m.getParameterCount() <= 7);
    }
  }

  private static void checkSizes() {
    Class<?>[] inside = LoopTells.class.getDeclaredClasses();
    due("twelve classes at most", inside.length < 12);
    checkFieldCount(LoopTells.class);
    for (Class<?> type : inside) {
      checkFieldCount(type);
    }
  }

  private static void checkFieldCount(Class<?> type) {
    long held = 0;
    for (Field f : type.getDeclaredFields()) {
      held += Modifier.isStatic(f.getModifiers()) ? 0 : 1;
    }
    due(type + " has twenty fields at most", held <= 20);
  }

  /** How many objects and arrays are held (first), and their fields and elements (second). */
  private static long[] roomOf(Object root) throws IllegalAccessException {
    Set<Object> held = Collections.newSetFromMap(new IdentityHashMap<>());
    Deque<Object> open = new ArrayDeque<>();
    open.add(root);
    long elements = 0;
    while (!open.isEmpty()) {
      Object o = open.remove();
      if (!held.add(o)) {
        continue;
      }
      if (o.getClass().isArray()) {
        elements += Array.getLength(o);
        for (int i = 0; !o.getClass().getComponentType().isPrimitive() && i < Array.getLength(o); i++) {
          open.add(Array.get(o, i));
        }
        continue;
      }
      for (Field f : o.getClass().getDeclaredFields()) {
        if (!Modifier.isStatic(f.getModifiers())) {
          f.setAccessible(true);
          elements++;
          if (!f.getType().isPrimitive() && f.get(o) != null) {
            open.add(f.get(o));
          }
        }
      }
    }
    return new long[] {held.size(), elements};
  }

  /** What an object holds is made with it, and small beside the one room of all calls. */
  private static void checkRoom() throws IllegalAccessException {
    LoopTells x = new LoopTells();
    long[] first = roomOf(x);
    due("an object holds few: " + first[0] + ", " + first[1], first[0] < 400 && first[1] < 10000);
    for (int call = 0; call < 512; call += 8) {
      x.order(4096 * 5 + 32);
      x.word(call % 8, call);
      x.run(call % 16, 3, 1);
      x.seen(call % 16, 3, 0, 1);
      x.most();
      x.pair(4);
      x.cure(1);
      x.tellers();
    }
    due("an object holds no more after 512 calls", Arrays.equals(first, roomOf(x)));
  }

  private static void checkText(String source) {
    String code = source.replaceAll("(?s)/\\*.*?\\*/", "").replaceAll("//[^\n]*", "");
    for (String barred : BARRED) {
      Matcher matcher = Pattern.compile(barred).matcher(code);
      due("no " + barred, !matcher.find());
    }
    due("characters up to 255", source.chars().allMatch(c -> c < 256));
  }

  public static void main(String[] args) throws IOException, IllegalAccessException {
    checkFace();
    checkSizes();
    checkRoom();
    checkText(Files.readString(Path.of("src/main/java/LoopTells.java")));
    System.out.println(wrong == 0 ? "the face and the rules hold" : wrong + " do not hold");
    if (wrong != 0) {
      System.exit(1);
    }
  }
}
