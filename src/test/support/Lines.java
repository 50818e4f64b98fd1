import java.lang.reflect.InvocationTargetException;
import java.lang.reflect.Method;
import java.lang.reflect.Modifier;
import java.util.HashMap;
import java.util.Map;
import java.util.NoSuchElementException;

/**
 * Calls told as lines, gone through on a new object, with the answers that are due.
 *
 * A line is a call and what is due: "put(0,9,0,0) = 0". Behind a | stands the whole ROW that is due.
 * MIN and MAX are the least and the greatest int. "town gb;k = 2" tells the text behind the name, then
 * calls it ("town = 0": an empty one); "text gb" only tells it. An answer "throws" is a
 * NoSuchElementException; booleans count 1 or 0.
 *
 * "same" ahead of a call: nothing that can be seen changes by it, the ROW neither. "quiet": nothing but
 * the ROW does. THE TEXT is told ahead of what is compared, and a call that reads it must empty it.
 */
final class Lines {
  private static final Map<String, Method> METHODS = new HashMap<>();

  static {
    for (Method method : DownTheGutter.class.getDeclaredMethods()) {
      if (Modifier.isPublic(method.getModifiers())) {
        METHODS.put(method.getName(), method);
      }
    }
  }

  private final String test;
  private int wrong = 0;
  private int lines = 0;

  Lines(String test) {
    this.test = test;
  }

  /** Ends the test: with exit code 1 if an answer was not as due. */
  void end() {
    System.out.println(test + ": " + (wrong == 0 ? lines + " answers are as due" : wrong + " answers are not as due"));
    if (wrong != 0) {
      System.exit(1);
    }
  }

  void fault(String what) {
    wrong++;
    System.out.println(test + ": " + what);
  }

  void check(String title, String text) {
    DownTheGutter x = new DownTheGutter();
    for (String line : text.split("\n")) {
      if (line.isBlank()) {
        continue;
      }
      lines++;
      String due = checkLine(x, line.strip());
      if (!due.isEmpty()) {
        fault(title + ": " + line.strip() + ": " + due);
      }
    }
  }

  /** What is not as due, empty if all is. */
  private static String checkLine(DownTheGutter x, String line) {
    boolean isSame = line.startsWith("same ");
    boolean isQuiet = line.startsWith("quiet ");
    String rest = isSame || isQuiet ? line.substring(line.indexOf(' ') + 1) : line;
    if (rest.startsWith("text ")) {
      tell(x, rest.substring(5));
      return "";
    }
    int bar = rest.lastIndexOf(" | ");
    String front = bar < 0 ? rest : rest.substring(0, bar);
    int cut = front.lastIndexOf(" = ");
    if (cut < 0) {
      return "is no line";
    }
    String call = front.substring(0, cut).strip();
    boolean isText = call.matches("(town|water|rule|day)( .*)?");
    if (isText) {
      String name = call.split(" ")[0];
      tell(x, call.length() > name.length() ? call.substring(name.length() + 1) : "");
      call = name + "()";
    }
    String was = isSame || isQuiet ? seen(x, isSame) : "";
    String got = answer(x, call);
    if (!got.equals(front.substring(cut + 3).strip())) {
      return "answered " + got;
    }
    if (bar >= 0 && !rowOf(x).equals(rest.substring(bar + 3).strip())) {
      return "has the row " + rowOf(x);
    }
    if ((isSame || isQuiet) && !seen(x, isSame).equals(was)) {
      return "changed\n  " + was + "\n  into\n  " + seen(x, isSame);
    }
    return isText && x.count(11) != 0 ? "did not empty THE TEXT" : "";
  }

  private static String answer(DownTheGutter x, String call) {
    int open = call.indexOf('(');
    String inside = call.substring(open + 1, call.length() - 1);
    String[] parts = inside.isEmpty() ? new String[0] : inside.split(",");
    Object[] args = new Object[parts.length];
    for (int i = 0; i < parts.length; i++) {
      args[i] = number(parts[i].strip());
    }
    try {
      Object told = METHODS.get(call.substring(0, open)).invoke(x, args);
      return told instanceof Boolean b ? (b ? "1" : "0") : told.toString();
    } catch (InvocationTargetException e) {
      return e.getCause().getClass() == NoSuchElementException.class ? "throws" : e.getCause().toString();
    } catch (IllegalAccessException e) {
      return e.toString();
    }
  }

  private static Integer number(String text) {
    return text.equals("MIN") ? Integer.valueOf(Integer.MIN_VALUE) : text.equals("MAX") ? Integer.valueOf(Integer.MAX_VALUE) : Integer.valueOf(text);
  }

  static void tell(DownTheGutter x, String text) {
    x.end(0);
    for (int at = 0; at < text.length(); at += 4) {
      int v = 0;
      for (int k = 0; k < 4; k++) {
        v = v << 8 | (at + k < text.length() ? text.charAt(at + k) : 0);
      }
      x.sign(v);
    }
    x.end(text.length());
  }

  private static String rowOf(DownTheGutter x) {
    StringBuilder b = new StringBuilder();
    for (int i = 0; i < x.count(10); i++) {
      b.append(i > 0 ? " " : "").append(x.row(i));
    }
    return b.toString();
  }

  /** All that can be seen without a change of the ROW; of THE RULE and PLANKS what they do. */
  private static String seen(DownTheGutter x, boolean withRow) {
    StringBuilder b = new StringBuilder();
    for (int what = 0; what < 10; what++) {
      b.append(x.count(what)).append(' ');
    }
    for (int p = 0; p < x.count(0); p++) {
      b.append("; place");
      for (int what = 0; what < 6; what++) {
        b.append(' ').append(x.place(p, what));
      }
      for (int to = 0; to < x.count(0); to++) {
        b.append(' ').append(x.sail(p, 99, 9, 0, to));
      }
    }
    for (int i = 0; i < x.count(1); i++) {
      b.append("; thing");
      for (int what = 0; what < 7; what++) {
        b.append(' ').append(x.of(i, what));
      }
    }
    b.append("; water ");
    for (int hour = 0; hour < 41; hour++) {
      b.append(x.flow(10 * hour));
    }
    return withRow ? b.append("; row ").append(rowOf(x)).toString() : b.toString();
  }
}
