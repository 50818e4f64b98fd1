import java.io.IOException;
import java.lang.management.ManagementFactory;
import java.lang.reflect.Field;
import java.lang.reflect.InvocationTargetException;
import java.lang.reflect.Method;
import java.lang.reflect.Modifier;
import java.nio.file.Files;
import java.nio.file.Path;
import java.util.Arrays;
import java.util.NoSuchElementException;
import java.util.Random;
import java.util.Set;
import java.util.TreeSet;
import java.util.regex.Matcher;
import java.util.regex.Pattern;

/** The public face, rules of the language that can be seen from outside, wild arguments, and the room that calls take. */
public final class FaceTest {
  private static final String[] FACE = {
    "int sign(int)", "boolean end(int)", "int town()", "int water()", "int rule()", "int place(int,int)", "int of(int,int)",
    "int flow(int)", "boolean plank(int,int)", "int sheet(int,int,int,int)", "int put(int,int,int,int)", "int give(int,int)",
    "int run(int)", "int day()", "int undo()", "int where(int,int)", "int comes(int)", "int lost(int)", "int homes(int)",
    "int sail(int,int,int,int,int)", "int soonest(int,int,int)", "int basin(int,int,int)", "int boat(int,int,int)",
    "int coins(int,int,int)", "int waits(int,int,int,int)", "int round(int)", "int save(int)", "int steer(int,int)",
    "int ways(int,int,int,int)", "int duel(int,int,int,int,int)", "int cork(int,int,int)", "int forget()", "int maps()",
    "int next(int)", "int odds(int,int,int)", "int marks(int,int,int)", "int order(int,int)", "boolean keep(int)",
    "boolean again(int)", "int count(int)", "long row(int)"};
  private static int wrong = 0;

  public static void main(String[] args) throws Exception {
    face();
    inside();
    source();
    wildArguments();
    room();
    System.out.println(wrong == 0 ? "FaceTest: all is as due" : "FaceTest: " + wrong + " faults");
    if (wrong != 0) {
      System.exit(1);
    }
  }

  private static void check(boolean holds, String what) {
    if (!holds) {
      wrong++;
      System.out.println("FaceTest: " + what);
    }
  }

  private static String told(Method m) {
    StringBuilder b = new StringBuilder(m.getReturnType() + " " + m.getName() + "(");
    for (Class<?> c : m.getParameterTypes()) {
      b.append(b.charAt(b.length() - 1) == '(' ? "" : ",").append(c);
    }
    return b.append(")").toString();
  }

  private static void face() throws IOException {
    Class<?> c = DownTheGutter.class;
    check(Modifier.isPublic(c.getModifiers()) && Modifier.isFinal(c.getModifiers()), "the class is not public and final");
    check(DownTheGutter.NONE == -1, "NONE is not -1");
    check(c.getDeclaredConstructors().length == 1 && c.getConstructors().length == 1, "there is another constructor");
    Set<String> seen = new TreeSet<>();
    for (Method m : c.getDeclaredMethods()) {
      if (Modifier.isPrivate(m.getModifiers())) {
        continue;
      }
      seen.add(told(m));
      check(Modifier.isPublic(m.getModifiers()), m + " is seen");
      boolean throwsIt = Arrays.asList(m.getExceptionTypes()).contains(NoSuchElementException.class);
      check(throwsIt == Set.of("place", "of", "row").contains(m.getName()), m + ": its exceptions");
    }
    check(seen.equals(new TreeSet<>(Arrays.asList(FACE))), "the face is " + seen);
    Path document = Path.of("../shared/DOC.md");
    if (Files.exists(document)) {
      check(seen.equals(toldFace(Files.readString(document))), "the face is not the document's");
    }
    for (Field f : c.getDeclaredFields()) {
      check(Modifier.isPrivate(f.getModifiers()) || f.getName().equals("NONE"), f + " is seen");
    }
  }

  /** The methods of the document's listing, as told() tells them. */
  private static Set<String> toldFace(String document) {
    Set<String> told = new TreeSet<>();
    Matcher line = Pattern.compile("\n    public (int|long|boolean) (\\w+)\\(([^)]*)\\)( throws NoSuchElementException)?;").matcher(document);
    while (line.find()) {
      told.add(line.group(1) + " " + line.group(2) + "(" + line.group(3).replaceAll(" \\w+(, )?", ",").replaceAll(",$", "") + ")");
    }
    return told;
  }

  private static void inside() {
    Set<String> names = new TreeSet<>();
    for (String line : FACE) {
      names.add(line.substring(line.indexOf(' ') + 1, line.indexOf('(')));
    }
    Class<?>[] nested = DownTheGutter.class.getDeclaredClasses();
    check(nested.length + 1 <= 12, "there are too many classes");
    for (Class<?> c : nested) {
      check(Modifier.isStatic(c.getModifiers()), c + " is not static");
      check(!Modifier.isPublic(c.getModifiers()) && !Modifier.isProtected(c.getModifiers()), c + " is seen");
      for (Method m : c.getDeclaredMethods()) {
        check(!names.contains(m.getName()), m + " bears a name of the face");
      }
    }
    for (Class<?> c : concat(nested)) {
      int fields = 0;
      for (Field f : c.getDeclaredFields()) {
        fields += Modifier.isStatic(f.getModifiers()) ? 0 : 1;
        check(!Modifier.isStatic(f.getModifiers()) || Modifier.isFinal(f.getModifiers()), f + " is static and changes");
      }
      check(fields <= 20, c + " has " + fields + " fields");
      for (Method m : c.getDeclaredMethods()) {
        check(m.getParameterCount() <= 7, m + " takes too much");
        check(!Modifier.isPrivate(m.getModifiers()) || !names.contains(m.getName()), m + " bears a name of the face");
      }
    }
  }

  private static Class<?>[] concat(Class<?>[] nested) {
    Class<?>[] all = Arrays.copyOf(nested, nested.length + 1);
    all[nested.length] = DownTheGutter.class;
    return all;
  }

  private static void source() throws IOException {
    String text = Files.readString(Path.of("src/main/java/DownTheGutter.java"));
    String code = text.replaceAll("(?s)/\\*.*?\\*/", "").replaceAll("//[^\n]*", "");
    for (String word : new String[] {"try", "catch", "finally", "synchronized", "assert", "while", "do", "package", "protected",
      "instanceof", "double", "float", "System", "Object", "var", "default:\\s*\\}", "getMessage"}) {
      check(!code.matches("(?s).*\\b" + word + "\\b.*"), "the source has the word " + word);
    }
    for (String sign : new String[] {"->", "::", "\" +", "+ \"", "@"}) {
      check(!code.contains(sign), "the source has " + sign);
    }
    for (int i = 0; i < text.length(); i++) {
      check(text.charAt(i) < 128, "the source has a sign above 127");
    }
    int begun = 0;
    int number = 0;
    for (String line : text.split("\n")) {
      number++;
      if (line.matches(" {4,8}[a-z].*\\) (throws \\w+ )?\\{")) {
        begun = number;
      }
      if (line.matches(" {4,8}\\}")) {
        check(number - begun < 60, "the method that ends in line " + number + " is long");
        begun = number;
      }
      if (line.startsWith("import ")) {
        check(line.equals("import java.util.NoSuchElementException;"), line);
      }
    }
  }

  /** No call throws but for place, of and row, whatever it is given. */
  private static void wildArguments() throws IllegalAccessException {
    int[] numbers = {Integer.MIN_VALUE, Integer.MIN_VALUE + 1, -1000000, -33, -32, -31, -2, -1, 0, 0, 1, 1, 2, 3, 4, 5, 6, 9, 10, 11, 12, 13,
      29, 30, 31, 32, 33, 63, 64, 80, 99, 100, 300, 301, 999, 4095, 4096, 9999, 65536, Integer.MAX_VALUE - 1, Integer.MAX_VALUE};
    String[] towns = {"", "k", "gb;dce;fd2;k;rf3;k", "dbc;dde;k;mc09;k", "dbc;dcd;dde;def;dfg;dgh;dhi;dij;djk;dkl;dla;k", "ia2", "da a"};
    Random random = new Random(4711);
    for (int run = 0; run < 150; run++) {
      DownTheGutter x = new DownTheGutter();
      Lines.tell(x, towns[random.nextInt(towns.length)]);
      x.town();
      Lines.tell(x, new String[] {"", "p", "-999*999*999*999/-1", "0/0", "n+p", "m/(p-p)"}[random.nextInt(6)]);
      x.rule();
      for (int k = 0; k < 300; k++) {
        Method m = DownTheGutter.class.getDeclaredMethods()[random.nextInt(DownTheGutter.class.getDeclaredMethods().length)];
        if (!Modifier.isPublic(m.getModifiers()) || m.getName().equals("town") && random.nextInt(5) > 0) {
          continue;
        }
        Object[] args = new Object[m.getParameterCount()];
        for (int i = 0; i < args.length; i++) {
          args[i] = random.nextInt(3) > 0 ? random.nextInt(7) : numbers[random.nextInt(numbers.length)];
        }
        try {
          m.invoke(x, args);
        } catch (InvocationTargetException e) {
          boolean may = Set.of("place", "of", "row").contains(m.getName()) && e.getCause() instanceof NoSuchElementException;
          check(may, m + " " + Arrays.toString(args) + " throws " + e.getCause());
        }
      }
    }
  }

  private static final com.sun.management.ThreadMXBean THREADS = (com.sun.management.ThreadMXBean) ManagementFactory.getThreadMXBean();

  private static long allocated() {
    return THREADS.getCurrentThreadAllocatedBytes();
  }

  /** Rows are made with the object and used again: calls make nothing. */
  private static void room() {
    DownTheGutter x = new DownTheGutter();
    long least = Long.MAX_VALUE;
    for (int k = 0; k < 5; k++) {
      long was = allocated();
      everyCall(x);
      least = Math.min(least, allocated() - was);
    }
    check(least == 0, "a run of all calls took " + least + " bytes");
    long was = allocated();
    new DownTheGutter();
    check(allocated() - was < 60000, "an object takes " + (allocated() - was) + " bytes");
  }

  private static void everyCall(DownTheGutter x) {
    Lines.tell(x, "dbc;dde;gd;mc09;k;ra1;ia3");
    x.town();
    Lines.tell(x, "12");
    x.water();
    Lines.tell(x, "p+n*0");
    x.rule();
    Lines.tell(x, "ta9;n1;pb;c01");
    x.day();
    for (int k = 0; k < 20; k++) {
      x.plank(0, k % 2);
      x.run(1);
    }
    x.put(0, 50, 2, 1);
    x.put(5, 50, 2, 1);
    x.give(1, 2);
    x.sheet(0, 2, 50, 1);
    x.undo();
    x.where(0, 300);
    x.comes(0);
    x.lost(300);
    x.homes(300);
    x.sail(0, 9, 0, 0, 4);
    x.soonest(9, 0, 4);
    x.basin(9, 0, 4);
    x.boat(0, 0, 4);
    x.coins(5, 9, 4);
    x.waits(0, 9, 0, 4);
    x.round(0);
    x.save(3);
    x.steer(0, 4);
    x.ways(0, 9, 0, 4);
    x.duel(0, 9, 0, 4, 3);
    x.cork(0, 0, 4);
    x.maps();
    x.next(0);
    x.forget();
    x.odds(0, 60, 5);
    x.marks(9, 0, 19);
    x.order(0, 1);
    x.keep(0);
    x.again(0);
    x.flow(5);
    x.count(10);
    x.row(0);
    x.place(0, 0);
    x.of(0, 0);
  }
}
