import java.lang.reflect.Constructor;
import java.lang.reflect.Field;
import java.lang.reflect.Method;
import java.lang.reflect.Modifier;
import java.util.Set;
import java.util.TreeSet;

/** The public face is the document's, and nothing else is to be seen of the class. */
public final class FaceTest {
    private static final String FACE =
        "row(int,int,int) set(int,int,long) copy(int,int,int,int,int) element(int,int):long holds(int) show(int,int)"
        + " says(int,int) tell(int,int) joy(int,int) feed(int) wipe() store() heirOf(int,int) joyOf(int) uses(int,int)"
        + " gets(int) ahead(int,int) later(int,int,int) out() longest() happiest(int,int) fair(int) better(int) spared()"
        + " part(int) line(int) kin(int,int) under(int) was(int,int,int) mayBe(int,int,int) made(int) best(int)"
        + " last(int,int,int) odds(int,int,int) fits(int,int,int,int) when(int,int) who(int) rich(int) needs(int) most()"
        + " feast(int,int) steps(int,int) share(int,int) eldest(int) leaves(int,int) fairest(int) merriest(int,int)"
        + " dry(int) likely(int,int,int) ask(int,int) ofKind(int) judge(int,int) born(int,int,int,int)"
        + " gives(int,int,int) years(int) drawn(int) seed(int) image() back() status(int)";

    public static void main(String[] args) {
        Set<String> want = new TreeSet<>(Set.of(FACE.split(" ")));
        Set<String> names = new TreeSet<>();
        Set<String> seen = new TreeSet<>();
        for (Method method : CorkSaysWhen.class.getDeclaredMethods()) {
            if (!Modifier.isPrivate(method.getModifiers())) {
                seen.add(signature(method));
                names.add(method.getName());
            }
        }
        Due.same("the face", seen.toString(), want.toString());
        for (Method method : CorkSaysWhen.class.getDeclaredMethods()) {
            if (Modifier.isPrivate(method.getModifiers())) {
                Due.due("a private " + method.getName() + " bears a public name", names.contains(method.getName()) ? 1 : 0, 0);
            }
        }
        for (Field field : CorkSaysWhen.class.getDeclaredFields()) {
            boolean isNone = field.getName().equals("NONE") && Modifier.isPublic(field.getModifiers());
            Due.due("field " + field.getName(), isNone || Modifier.isPrivate(field.getModifiers()) ? 1 : 0, 1);
            Due.due("static " + field.getName() + " is final",
                !Modifier.isStatic(field.getModifiers()) || Modifier.isFinal(field.getModifiers()) ? 1 : 0, 1);
        }
        Constructor<?>[] constructors = CorkSaysWhen.class.getDeclaredConstructors();
        Due.due("constructors", constructors.length, 1);
        Due.due("its arguments", constructors[0].getParameterCount(), 0);
        Due.due("it is public", constructors[0].getModifiers(), Modifier.PUBLIC);
        Due.due("the class is public and final", CorkSaysWhen.class.getModifiers(), Modifier.PUBLIC | Modifier.FINAL);
        Due.end("FaceTest");
    }

    private static String signature(Method method) {
        StringBuilder text = new StringBuilder(method.getName()).append('(');
        for (Class<?> type : method.getParameterTypes()) {
            text.append(text.charAt(text.length() - 1) == '(' ? "" : ",").append(type.getName());
        }
        text.append(')');
        return method.getReturnType() == int.class ? text.toString() : text.append(':').append(method.getReturnType()).toString();
    }
}
