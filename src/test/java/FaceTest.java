import java.lang.reflect.Constructor;
import java.lang.reflect.Field;
import java.lang.reflect.Member;
import java.lang.reflect.Method;
import java.lang.reflect.Modifier;
import java.util.ArrayList;
import java.util.Collections;
import java.util.List;

/** The public face: the class is final, and has what the document tells and nothing beside it. */
public final class FaceTest {
  private static final String I = " throws IndexOutOfBoundsException";
  private static final String A = " throws IllegalArgumentException";
  private static final String S = " throws IllegalStateException";
  private static final String IA = I + ", IllegalArgumentException";
  private static final String IS = I + ", IllegalStateException";
  private static final String AS = A + ", IllegalStateException";
  private static final String IAS = IA + ", IllegalStateException";

  private static final String[] METHODS = {
    "int leg(int, int)" + IAS,
    "int wipe()",
    "int write(int)" + AS,
    "int reverse(int)" + IS,
    "int pass(int)" + AS,
    "int burn(int, int)" + IA,
    "int alter(int, int, int)" + IAS,
    "int copy()" + S,
    "int copyFrom(int)" + IS,
    "int carry(int, boolean)" + I,
    "boolean rot(int, int)" + I,
    "int throwAway(int)" + IS,
    "int restore(int)" + IS,
    "int open()" + S,
    "int close(int)" + IS,
    "int hold(int, int, int, int)" + IAS,
    "int strike(int, int)" + IS,
    "int day()",
    "int pages()",
    "int state(int)" + I,
    "boolean isTrue(int)" + I,
    "int text(int)" + I,
    "int mark(int)" + I,
    "int reversal(int)" + I,
    "boolean proves(int, int)" + IA,
    "int proven(int, int)" + I,
    "int balance(int, int)" + IA,
    "int balanceByPages(int, int)" + IAS,
    "int balanceByCopies(int, int)" + IAS,
    "int copies()",
    "int size(int)" + I,
    "boolean isInVault(int)" + I,
    "boolean stands(int, int)" + I,
    "int copiesOf(int)" + I,
    "boolean canRestore(int)" + I,
    "int gaps()",
    "int lost()",
    "int audit(int)" + I,
    "boolean isOpen(int)" + I,
    "int holders(int)" + I,
    "boolean canStrike(int, int)" + I,
  };

  private FaceTest() {}

  public static void main(String[] args) {
    Class<?> type = LedgerKiln.class;
    Check.due("the class is public and final",
        Modifier.isPublic(type.getModifiers()) && Modifier.isFinal(type.getModifiers()), true);
    List<String> due = new ArrayList<>(List.of(METHODS));
    Collections.sort(due);
    Check.due("methods that are not private", methodsOf(type), due);
    Check.due("constructors", type.getDeclaredConstructors().length, 1);
    for (Constructor<?> constructor : type.getDeclaredConstructors()) {
      Check.due("the constructor", constructor.toString(), "public LedgerKiln()");
    }
    for (Field field : type.getDeclaredFields()) {
      Check.due("private: " + field, isPrivate(field), true);
    }
    for (Method method : type.getDeclaredMethods()) {
      boolean twice = isPrivate(method) && due.stream().anyMatch(d -> d.contains(" " + method.getName() + "("));
      Check.due("a private method with the name of a public one: " + method, twice, false);
    }
    for (Class<?> inside : type.getDeclaredClasses()) {
      Check.due("private: " + inside, Modifier.isPrivate(inside.getModifiers()), true);
    }
    Check.end("FaceTest");
  }

  private static boolean isPrivate(Member member) {
    return Modifier.isPrivate(member.getModifiers());
  }

  private static List<String> methodsOf(Class<?> type) {
    List<String> methods = new ArrayList<>();
    for (Method method : type.getDeclaredMethods()) {
      if (!isPrivate(method)) {
        methods.add(told(method));
      }
    }
    Collections.sort(methods);
    return methods;
  }

  private static String told(Method method) {
    StringBuilder told = new StringBuilder();
    told.append(method.getReturnType().getSimpleName()).append(' ').append(method.getName()).append('(');
    told.append(names(method.getParameterTypes())).append(')');
    if (method.getExceptionTypes().length > 0) {
      told.append(" throws ").append(names(method.getExceptionTypes()));
    }
    return told.toString();
  }

  private static String names(Class<?>[] types) {
    List<String> names = new ArrayList<>();
    for (Class<?> type : types) {
      names.add(type.getSimpleName());
    }
    return String.join(", ", names);
  }
}
