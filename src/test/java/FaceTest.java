import java.lang.reflect.Field;
import java.lang.reflect.Method;
import java.lang.reflect.Modifier;
import java.util.Arrays;
import java.util.TreeSet;

// The class has the document's face, and nothing else that can be seen from outside.
public final class FaceTest {
  private static int wrong = 0;

  private static void due(String what, Object got, Object want) {
    if (!got.equals(want)) { wrong++; System.out.println(what + ": " + got + ", due is " + want); }
  }

  public static void main(String[] args) {
    TreeSet<String> want = new TreeSet<>(Arrays.asList(
        "int numbers()", "int all(int)", "int meet(int,int,int,long)", "long bound(int,int,int)", "int nothing(int)",
        "int forget(int,int)", "int shift(int,int,long,long)", "int turn(int,int)", "int join(int,int)",
        "int widen(int,int)", "int copy(int,int)", "int lies(int,int)", "boolean has(int,int,int,int,int,int,int)",
        "int NONE", "long NO_BOUND"));
    TreeSet<String> got = new TreeSet<>();
    for (Method m : TightOctagon.class.getDeclaredMethods()) {
      if (Modifier.isPrivate(m.getModifiers())) continue;
      due(m.getName() + " is public and nothing more", m.getModifiers(), Modifier.PUBLIC);
      StringBuilder types = new StringBuilder();
      for (Class<?> type : m.getParameterTypes()) types.append(types.length() == 0 ? "" : ",").append(type.getName());
      got.add(m.getReturnType().getName() + " " + m.getName() + "(" + types + ")");
    }
    for (Field f : TightOctagon.class.getDeclaredFields()) {
      if (Modifier.isPrivate(f.getModifiers())) continue;
      due(f.getName() + " is a constant", f.getModifiers(), Modifier.PUBLIC | Modifier.STATIC | Modifier.FINAL);
      got.add(f.getType().getName() + " " + f.getName());
    }
    due("the face", got, want);
    due("private methods with the name of a public one", hiddenNamesakes(), new TreeSet<String>());
    due("the class is public and final", TightOctagon.class.getModifiers(), Modifier.PUBLIC | Modifier.FINAL);
    due("constructors", TightOctagon.class.getDeclaredConstructors().length, 1);
    due("public constructors", TightOctagon.class.getConstructors().length, 1);
    due("NONE", TightOctagon.NONE, -1);
    due("NO_BOUND", TightOctagon.NO_BOUND, -1099511627776L);
    System.out.println(wrong == 0 ? "the face is as due" : wrong + " things are not as due");
    if (wrong != 0) System.exit(1);
  }

  private static TreeSet<String> hiddenNamesakes() {
    TreeSet<String> seen = new TreeSet<>();
    for (Method m : TightOctagon.class.getMethods()) seen.add(m.getName());
    TreeSet<String> namesakes = new TreeSet<>();
    addNamesakes(TightOctagon.class, seen, namesakes);
    for (Class<?> inside : TightOctagon.class.getDeclaredClasses()) addNamesakes(inside, seen, namesakes);
    return namesakes;
  }

  private static void addNamesakes(Class<?> type, TreeSet<String> seen, TreeSet<String> namesakes) {
    for (Method m : type.getDeclaredMethods()) {
      if (!Modifier.isPublic(m.getModifiers()) && seen.contains(m.getName())) namesakes.add(m.getName());
    }
  }
}
