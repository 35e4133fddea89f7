import java.io.IOException;
import java.lang.management.ManagementFactory;
import java.lang.reflect.Constructor;
import java.lang.reflect.Field;
import java.lang.reflect.Method;
import java.lang.reflect.Modifier;
import java.nio.file.Files;
import java.nio.file.Path;
import java.util.ArrayList;
import java.util.List;
import java.util.Set;
import java.util.TreeSet;
import java.util.regex.Matcher;
import java.util.regex.Pattern;

/** The face of the document and no other, the rules of LANGUAGE.md that can be seen from outside, and the room. */
public final class OddsFractionsFace {
  private static final String[] FACE = {
    "int code()", "int value(int,long,long)", "int copy(int,int)", "int nothing(int)", "int work(int,int,int,int)",
    "int power(int,int,int)", "int binomial(int,int,int)", "int common(int,int,int)", "int order(int,int)",
    "int sign(int)", "int small(int)", "int limbs(int,int)", "long limb(int,int,int)", "long round(int,int,int)",
    "long real(int,int)", "int from(int,long)", "long exact(int,long,long)", "int row(int,int)", "int put(int,int,int)",
    "int move(int,int,int,int,int)", "int filled(int)", "int sum(int,int)", "int one(int)", "int pick(int,int)", "int grown()"
  };
  /** Words and calls that LANGUAGE.md leaves out, or that this class has no need of. */
  private static final String[] LEFT_OUT = {
    "\\bimport\\b", "\\bpackage\\b", "\\btry\\b", "\\bcatch\\b", "\\bthrow\\b", "\\bsynchronized\\b", "\\bassert\\b",
    "->", "::", "Exact\\(", "\\bdouble\\b", "\\bfloat\\b", "\\bvar\\b", "\\brecord\\b", "\\bSystem\\b", "@", "\\bstatic \\{"
  };

  private static int wrong = 0;

  private static void check(String what, boolean holds) {
    if (holds) return;
    wrong++;
    System.out.println(what);
  }

  private static String told(Method method) {
    StringBuilder text = new StringBuilder(method.getReturnType().getName() + " " + method.getName() + "(");
    for (Class<?> type : method.getParameterTypes()) text.append(text.charAt(text.length() - 1) == '(' ? "" : ",").append(type.getName());
    return text.append(')').toString();
  }

  private static void checkFace() {
    Class<?> it = OddsFractions.class;
    check("the class is not public and final", Modifier.isPublic(it.getModifiers()) && Modifier.isFinal(it.getModifiers()));
    Set<String> face = new TreeSet<>();
    Set<String> names = new TreeSet<>();
    for (Method method : it.getDeclaredMethods()) {
      if (Modifier.isPrivate(method.getModifiers())) continue;
      check("not public: " + method, method.getModifiers() == Modifier.PUBLIC);
      face.add(told(method));
      names.add(method.getName());
    }
    check("the face is " + face, face.equals(new TreeSet<>(List.of(FACE))));
    for (Constructor<?> made : it.getDeclaredConstructors()) {
      check("another constructor: " + made, made.getParameterCount() == 0 && Modifier.isPublic(made.getModifiers()));
    }
    for (Field field : it.getDeclaredFields()) {
      boolean isConstant = field.getName().equals("NONE") || field.getName().equals("OUTSIDE");
      check("seen from outside: " + field, isConstant == !Modifier.isPrivate(field.getModifiers()));
    }
    checkInside(it, names);
  }

  private static void checkInside(Class<?> it, Set<String> publicNames) {
    List<Class<?>> all = new ArrayList<>(List.of(it.getDeclaredClasses()));
    check("more than twelve classes", all.size() <= 11);
    for (Class<?> inside : all) {
      check("not static: " + inside, Modifier.isStatic(inside.getModifiers()) && !Modifier.isPublic(inside.getModifiers()));
      for (Method method : inside.getDeclaredMethods()) check("named as the face: " + method, !publicNames.contains(method.getName()));
    }
    all.add(it);
    for (Class<?> each : all) {
      int own = 0;
      for (Field field : each.getDeclaredFields()) {
        if (!Modifier.isStatic(field.getModifiers())) own++;
        else check("static and not final: " + field, Modifier.isFinal(field.getModifiers()) && field.getType().isPrimitive());
      }
      check("more than twenty fields: " + each, own <= 20);
      for (Method method : each.getDeclaredMethods()) {
        check("more than seven parameters: " + method, method.getParameterCount() <= 7);
        if (each == it && Modifier.isPrivate(method.getModifiers())) check("named as the face: " + method, !publicNames.contains(method.getName()));
      }
    }
  }

  private static void checkSource() throws IOException {
    String source = Files.readString(Path.of("src/main/java/OddsFractions.java"));
    String code = source.replaceAll("(?s)/\\*.*?\\*/", "").replaceAll("//[^\n]*", "");
    for (String word : LEFT_OUT) check("left out by LANGUAGE.md: " + word, !Pattern.compile(word).matcher(code).find());
    Matcher library = Pattern.compile("\\b(Math|Long|Integer|Arrays|String)\\.(\\w+)").matcher(code);
    Set<String> known = Set.of("Math.min", "Math.max", "Long.compare");
    while (library.find()) check("library: " + library.group(), known.contains(library.group()));
    Matcher loops = Pattern.compile("\\b(while|do)\\b").matcher(code);
    check("a loop whose end is not counted", !loops.find());
  }

  /** 512 calls of those that make most must stay far inside a room of 7.3 million fields and elements. */
  private static void checkRoom() {
    com.sun.management.ThreadMXBean bean = (com.sun.management.ThreadMXBean) ManagementFactory.getThreadMXBean();
    long thread = Thread.currentThread().getId();
    dearCalls();
    long before = bean.getThreadAllocatedBytes(thread);
    int answered = dearCalls();
    long bytes = bean.getThreadAllocatedBytes(thread) - before;
    check("not all was done: " + answered, answered == 160);
    check("512 calls took " + bytes + " bytes", bytes < 300000);
  }

  private static int dearCalls() {
    OddsFractions x = new OddsFractions();
    x.value(0, 3, 1);
    x.power(1, 0, -161);
    x.row(0, 10);
    for (int k = 0; k < 10; k++) x.put(0, k, 1);
    int answered = 0;
    for (int i = 0; i < 160; i++) {
      if (x.sum(2, 0) == 1 && x.binomial(3, 250, 125) == 1 && x.work(1, 4, 2, 1) == 1) answered++;
    }
    return answered;
  }

  public static void main(String[] args) throws IOException {
    checkFace();
    checkSource();
    checkRoom();
    System.out.println(wrong == 0 ? "all is as due" : wrong + " are not as due");
    if (wrong != 0) System.exit(1);
  }
}
