import java.lang.reflect.Constructor;
import java.lang.reflect.Field;
import java.lang.reflect.Method;
import java.lang.reflect.Modifier;
import java.util.Set;
import java.util.TreeSet;

/** The public face is that of the document, with what its methods declare, and no more. */
public final class FaceTest {
  private static final String[] FACE = {
      "int room(int) A S", "int close(int,int,int) I A", "int open(int,int) I A",
      "int clean(int) A S", "int base(int,int) A", "int pass(int) A S",
      "int book(int,int,int,int) A S", "int hold(int,int,int,int,int) A S",
      "int queue(int,int,int,int) A S", "int group(int,int,int,int,int) A S", "int pay(int) I S",
      "int cancel(int) I S", "int shorten(int,int) I A S", "int lengthen(int,int) I A S",
      "int move(int,int) I S", "int redeal()", "int undo() S", "int blank()", "int tear()",
      "int knock()", "int ofStay(int,int) I A", "int ofRoom(int,int) I A",
      "int at(int,int,int) I A",
      "int between(int,int,int) I A", "String text(int,int) I A", "int waiting(int) A",
      "int busy(int) A", "int house(int) A", "int free(int,int,int,boolean) A",
      "int hinders(int,int,int) I A", "int dealing(int) A", "int dealt(int) I",
      "int moves(int,int,int) A", "int price(int,int,int) A", "int odds(int,int,int) A",
      "int oneRoom(int) A", "String chosen(boolean)", "boolean isSound()", "long digest()"};

  private FaceTest() {
  }

  public static void main(String[] args) {
    Set<String> due = new TreeSet<>(Set.of(FACE));
    Set<String> got = new TreeSet<>();
    Set<String> hidden = new TreeSet<>();
    for (Method m : Bookingstree.class.getDeclaredMethods()) {
      if (Modifier.isPrivate(m.getModifiers())) {
        hidden.add(m.getName());
      } else {
        Check.is(true, Modifier.isPublic(m.getModifiers()), m + " is public");
        got.add(told(m));
      }
    }
    Check.is(due, got, "the methods of the face");
    for (String name : hidden) {
      Check.is(false, got.stream().anyMatch(m -> m.contains(" " + name + "(")), name + " is no name"
          + " of a public method");
    }
    Constructor<?>[] made = Bookingstree.class.getDeclaredConstructors();
    Check.is(1, made.length, "constructors");
    Check.is(0, made[0].getParameterCount(), "what the constructor is given");
    Check.is(true, Modifier.isPublic(made[0].getModifiers()), "the constructor is public");
    Check.is(true, Modifier.isFinal(Bookingstree.class.getModifiers()), "the class is final");
    for (Field f : Bookingstree.class.getDeclaredFields()) {
      Check.is(true, Modifier.isPrivate(f.getModifiers()), f + " is private");
      Check.is(true, !Modifier.isStatic(f.getModifiers()) || Modifier.isFinal(f.getModifiers()),
          f + " is final, if it is static");
    }
    for (Class<?> inside : Bookingstree.class.getDeclaredClasses()) {
      Check.is(true, Modifier.isStatic(inside.getModifiers())
          && !Modifier.isPublic(inside.getModifiers())
          && !Modifier.isProtected(inside.getModifiers()), inside + " is static and not public");
    }
    Check.end();
  }

  private static String told(Method m) {
    StringBuilder told = new StringBuilder(m.getReturnType().getSimpleName() + " " + m.getName());
    String sign = "(";
    for (Class<?> c : m.getParameterTypes()) {
      told.append(sign).append(c.getSimpleName());
      sign = ",";
    }
    told.append(m.getParameterCount() == 0 ? "()" : ")");
    for (Class<?> c : m.getExceptionTypes()) {
      told.append(c == IndexOutOfBoundsException.class ? " I"
          : c == IllegalArgumentException.class ? " A" : " S");
    }
    return told.toString();
  }
}
