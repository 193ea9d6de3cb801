import com.sun.management.ThreadMXBean;
import java.io.IOException;
import java.lang.management.ManagementFactory;
import java.lang.reflect.Array;
import java.lang.reflect.Constructor;
import java.lang.reflect.Field;
import java.lang.reflect.Method;
import java.lang.reflect.Modifier;
import java.nio.file.Files;
import java.nio.file.Path;
import java.util.ArrayDeque;
import java.util.Arrays;
import java.util.Collections;
import java.util.Deque;
import java.util.IdentityHashMap;
import java.util.Set;
import java.util.TreeSet;
import java.util.regex.Matcher;
import java.util.regex.Pattern;

/** What of ../shared/LANGUAGE.md and of the document's face a program can look at by itself. */
public final class LanguageTest {
  private static final Path DOC = Path.of("..", "shared", "DOC.md");
  private static final Path SOURCE = Path.of("src", "main", "java", "DeadCap.java");
  private static final String[] BANNED = {"throw", "throws", "try", "catch", "finally", "synchronized", "assert", "import", "package", "Object", "protected",
      "volatile", "transient", "native", "hashCode", "toString", "Exception", "System\\.(?!arraycopy\\b)\\w+", "\\w+Exact", "->", "::"};

  private LanguageTest() {
  }

  public static void main(String[] args) throws IOException {
    face(Files.readString(DOC));
    String code = bare(Files.readString(SOURCE));
    words(code);
    shape(code);
    room();
    Check.finish();
  }

  /** The document's face is the class's, and there is no other member that is not private. */
  private static void face(String doc) {
    Check.part("rule 1");
    Set<String> want = new TreeSet<>();
    Matcher m = Pattern.compile("public (int|long|boolean) (\\w+)\\(([^)]*)\\);").matcher(doc);
    while (m.find()) {
      want.add(m.group(1) + " " + m.group(2) + "(" + m.group(3).replaceAll("(int|long|boolean) \\w+", "$1").replace(" ", "") + ")");
    }
    Check.due("methods that the document names", want.size(), 55);
    Set<String> got = new TreeSet<>();
    Set<String> publicNames = new TreeSet<>();
    for (Method method : DeadCap.class.getDeclaredMethods()) {
      if (!Modifier.isPrivate(method.getModifiers())) {
        Check.due(method + " is public", Modifier.isPublic(method.getModifiers()) && !Modifier.isStatic(method.getModifiers()), true);
        String types = Arrays.toString(method.getParameterTypes()).replaceAll("[\\[\\] ]", "");
        got.add(method.getReturnType() + " " + method.getName() + "(" + types + ")");
        publicNames.add(method.getName());
      }
    }
    for (Method method : DeadCap.class.getDeclaredMethods()) {
      boolean hidden = Modifier.isPrivate(method.getModifiers());
      Check.due(method + " bears a name of the face", hidden && publicNames.contains(method.getName()), false);
    }
    Check.due("the face is " + want + ", not " + got, want.equals(got), true);
    Check.due("final", Modifier.isFinal(DeadCap.class.getModifiers()), true);
    Constructor<?>[] made = DeadCap.class.getDeclaredConstructors();
    Check.due("one constructor", made.length == 1 && Modifier.isPublic(made[0].getModifiers()), true);
    for (Field f : DeadCap.class.getDeclaredFields()) {
      Check.due(f.getName(), Modifier.isPrivate(f.getModifiers()) || f.getName().equals("NONE"), true);
    }
    for (Class<?> inside : DeadCap.class.getDeclaredClasses()) {
      Check.due(inside + " is static", Modifier.isStatic(inside.getModifiers()), true);
      Check.due(inside + " has few fields", inside.getDeclaredFields().length <= 24, true);
      for (Method method : inside.getDeclaredMethods()) {
        Check.due(method + " bears a name of the face", publicNames.contains(method.getName()), false);
        Check.due(method + " has seven parameters at most", method.getParameterCount() <= 7, true);
      }
    }
    Check.due("twelve classes", DeadCap.class.getDeclaredClasses().length + 1 <= 12, true);
  }

  /** The code without comments, texts and signs in quotes. */
  private static String bare(String source) {
    return source.replaceAll("(?s)/\\*.*?\\*/", "").replaceAll("//[^\n]*", "").replaceAll("\"[^\"\n]*\"", "\"\"").replaceAll("'[^'\n]'", "0");
  }

  private static void words(String code) {
    Check.part("rules 3 to 6");
    for (String word : BANNED) {
      String p = Character.isLetter(word.charAt(0)) ? "\\b" + word + "\\b" : word;
      Matcher m = Pattern.compile(p).matcher(code);
      Check.due(word + " stands in the program", m.find(), false);
    }
    Matcher fields = Pattern.compile("\\bstatic\\s+(?!final\\b)[\\w\\[\\]]+\\s+\\w+\\s*[=;]").matcher(code);
    Check.due("a static field is not final", fields.find(), false);
    Check.due("a static block", Pattern.compile("static\\s*\\{").matcher(code).find(), false);
    Check.due("while, whose end is harder to see", Pattern.compile("\\bwhile\\b").matcher(code).find(), false);
  }

  private static void shape(String code) {
    Check.part("rule 11");
    String[] lines = code.split("\n", -1);
    for (int i = 0; i < lines.length; i++) {
      Matcher m = Pattern.compile("^( {2}| {4})(?!class|private static final class|else|return|if|for)\\S.*\\) \\{$").matcher(lines[i]);
      if (m.find()) {
        int end = i;
        while (end < lines.length && !lines[end].equals(m.group(1) + "}")) {
          end++;
        }
        Check.due("line " + i + " begins a method of " + (end - i) + " lines: " + lines[i], end - i <= 60, true);
      }
    }
  }

  /** What one object makes in its life stays far below the room of a run: all of it can be reached from it. */
  private static void room() {
    Check.part("the room");
    DeadCap fresh = new DeadCap();
    due(fresh, 1000, 12000);
    DeadCap x = new DeadCap();
    Check.text(x, "p0,1,0,0,0:100,0;".repeat(20));
    Check.text(x, "p0,1,0,0,0:100,0;".repeat(20));
    Check.policy(x, "h");
    for (int i = 0; i < 450; i++) {
      x.undo();
      x.days(1);
      x.turn(0, 1);
      x.keep(i & 1);
      x.restore(i & 1);
      x.set(100000, 1);
      x.fit(100000, 1);
      x.byPolicy(1);
      x.write();
    }
    due(x, 4000, 50000);
    long before = counted(x)[0];
    x.restore(0);
    x.set(5, 0);
    Check.due("no more is made then", counted(x)[0], before);
    garbage(x);
  }

  /** What a call makes and drops is counted in the room, too: once the places are made, no call makes anything. */
  private static void garbage(DeadCap x) {
    ThreadMXBean threads = (ThreadMXBean) ManagementFactory.getThreadMXBean();
    long me = Thread.currentThread().getId();
    long answers = 0;
    threads.getThreadAllocatedBytes(me);
    long before = threads.getThreadAllocatedBytes(me);
    for (int i = 0; i < 300; i++) {
      answers += acts(x) + texts(x) + answers(x, i % 20);
    }
    long made = threads.getThreadAllocatedBytes(me) - before;
    Check.due("calls were made: " + answers, answers != 0, true);
    Check.due(made + " bytes were made by calls", made < 10000, true);
  }

  private static long acts(DeadCap x) {
    long sum = x.promise(0, 0, 5, true) + x.earn(0) + x.turn(1, 1) + x.lower(0, 1) + x.longer(0, 1, 100, 5) + x.days(1) + x.year() + x.undo();
    sum += x.cut(0) + x.trade(0) + x.undo() + x.byPolicy(999999) + (x.keep(0) ? 1 : 0) + (x.keep(1) ? 1 : 0) + (x.restore(0) ? 1 : 0);
    return sum + x.write() + x.octet(3) + x.why() + x.ended() + x.fault();
  }

  private static long texts(DeadCap x) {
    long sum = x.feed(0x63373B00, 0, 0, 0, 0) + x.end(3) + x.text();
    sum += x.feed(0x6D303B78, 0, 0, 0, 0) + x.end(4) + x.text();
    sum += x.feed(0x682A7300, 0, 0, 0, 0) + x.end(3) + x.policy();
    sum += x.feed(0x312C312C, 0x302C3130, 0x303B0000, 0, 0) + x.end(10) + x.market() + x.sign(0);
    return sum + x.feed(0x64313B79, 0x3B000000, 0, 0, 0) + x.end(5) + x.acts();
  }

  private static long answers(DeadCap x, int i) {
    long sum = x.is(i) + x.limit(i) + x.dead(i) + x.contract(i, 7) + x.pay(i, 0, 3) + x.now(1) + x.would(i, 3) + x.says(i);
    sum += x.set(100000, 1) + x.set(0, 0) + x.turned(i, 1) + x.ahead(i) + x.bestDay(i) + x.coins(i, 1) + x.freeYear(i) + x.allTurned();
    sum += x.ranked(i) + x.fit(100000, 2) + x.piece(i, 9, 0) + x.lastDay(i, 1) + x.cash(i, 0) + x.allCash(i) + x.tag(i) + x.counted(0);
    return sum + x.share(i) + x.dearest(i) + x.offer(0, 4) + x.buys(0) + x.promised(0, 2) + x.floor(i, 2) + x.over(10);
  }

  private static void due(DeadCap x, int objects, int elements) {
    long[] got = counted(x);
    Check.due(got[0] + " objects are below " + objects, got[0] < objects, true);
    Check.due(got[1] + " fields and elements are below " + elements, got[1] < elements, true);
  }

  private static long[] counted(Object root) {
    Set<Object> seen = Collections.newSetFromMap(new IdentityHashMap<>());
    Deque<Object> open = new ArrayDeque<>();
    open.add(root);
    seen.add(root);
    long cells = 0;
    while (!open.isEmpty()) {
      Object o = open.remove();
      if (o.getClass().isArray()) {
        cells += Array.getLength(o);
        if (o instanceof Object[] row) {
          for (Object e : row) {
            meet(e, seen, open);
          }
        }
        continue;
      }
      for (Field f : o.getClass().getDeclaredFields()) {
        if (Modifier.isStatic(f.getModifiers())) {
          continue;
        }
        cells++;
        if (!f.getType().isPrimitive()) {
          meet(read(f, o), seen, open);
        }
      }
    }
    return new long[] {seen.size(), cells};
  }

  private static Object read(Field f, Object o) {
    try {
      f.setAccessible(true);
      return f.get(o);
    } catch (IllegalAccessException e) {
      throw new IllegalStateException(e);
    }
  }

  private static void meet(Object o, Set<Object> seen, Deque<Object> open) {
    if (o != null && !(o instanceof String) && seen.add(o)) {
      open.add(o);
    }
  }
}
