import java.lang.reflect.Constructor;
import java.lang.reflect.Field;
import java.lang.reflect.Member;
import java.lang.reflect.Method;
import java.lang.reflect.Modifier;
import java.util.Set;
import java.util.TreeSet;

/** The class shows the document's face and nothing beside it. */
final class FaceTest {
    private static final Set<String> FACE = Set.of(
            "BERTH", "LEAVE",
            "MooringTree()",
            "int addShip(int,int,int) throws IllegalArgumentException,IllegalStateException",
            "int setRate(int,int) throws IndexOutOfBoundsException,IllegalArgumentException",
            "void setRules(int,int) throws IllegalArgumentException",
            "int fork(int,int) throws IndexOutOfBoundsException,IllegalStateException",
            "boolean order(int,int,int,int,int) throws "
                    + "IndexOutOfBoundsException,IllegalArgumentException,IllegalStateException",
            "boolean takeAway(int,int) throws IndexOutOfBoundsException",
            "int orderOf(int,int) throws IndexOutOfBoundsException",
            "int differences(int,int) throws IndexOutOfBoundsException",
            "int where(int,int,int) throws IndexOutOfBoundsException",
            "int cargo(int,int,int) throws IndexOutOfBoundsException",
            "int failures(int) throws IndexOutOfBoundsException",
            "int look(int,int) throws IndexOutOfBoundsException",
            "int seen(int) throws IndexOutOfBoundsException",
            "int ahead(int) throws IndexOutOfBoundsException",
            "int mark(int) throws IndexOutOfBoundsException",
            "int best()");

    public static void main(String[] args) {
        Check.says("BERTH = 1, LEAVE = 2", FaceTest::constants);
        Check.says("public final class MooringTree", FaceTest::publicAndFinal);
        Check.says("The public face", () -> Check.due("the face", new TreeSet<>(FACE), shown()));
        Check.end();
    }

    private static void constants() {
        Check.due("BERTH", 1, MooringTree.BERTH);
        Check.due("LEAVE", 2, MooringTree.LEAVE);
    }

    private static void publicAndFinal() {
        Check.due("public", true, Modifier.isPublic(MooringTree.class.getModifiers()));
        Check.due("final", true, Modifier.isFinal(MooringTree.class.getModifiers()));
    }

    private static Set<String> shown() {
        Set<String> shown = new TreeSet<>();
        for (Field field : MooringTree.class.getDeclaredFields()) {
            if (isShown(field)) {
                shown.add(field.getName());
            }
        }
        for (Constructor<?> constructor : MooringTree.class.getDeclaredConstructors()) {
            if (isShown(constructor)) {
                shown.add("MooringTree" + list(constructor.getParameterTypes()));
            }
        }
        for (Method method : MooringTree.class.getDeclaredMethods()) {
            if (isShown(method)) {
                shown.add(method.getReturnType() + " " + method.getName() + list(method.getParameterTypes())
                        + thrown(method.getExceptionTypes()));
            }
        }
        return shown;
    }

    private static String thrown(Class<?>[] types) {
        StringBuilder thrown = new StringBuilder();
        for (Class<?> type : types) {
            thrown.append(thrown.length() > 0 ? "," : " throws ").append(type.getSimpleName());
        }
        return thrown.toString();
    }

    private static boolean isShown(Member member) {
        return !Modifier.isPrivate(member.getModifiers()) && !member.isSynthetic();
    }

    private static String list(Class<?>[] types) {
        StringBuilder list = new StringBuilder("(");
        for (Class<?> type : types) {
            list.append(list.length() > 1 ? "," : "").append(type.getName());
        }
        return list.append(")").toString();
    }
}
