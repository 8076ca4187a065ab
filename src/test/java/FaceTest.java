import java.lang.reflect.Constructor;
import java.lang.reflect.Field;
import java.lang.reflect.Member;
import java.lang.reflect.Method;
import java.lang.reflect.Modifier;
import java.util.Set;
import java.util.TreeSet;

/** The class shows the document's face and nothing beside it. */
final class FaceTest {
    private static final Set<String> FACE = Set.of(
            "BERTH", "LEAVE",
            "MooringTree()",
            "int addShip(int,int,int)",
            "int setRate(int,int)",
            "void setRules(int,int)",
            "int fork(int,int)",
            "boolean order(int,int,int,int,int)",
            "boolean takeAway(int,int)",
            "int orderOf(int,int)",
            "int differences(int,int)",
            "int where(int,int,int)",
            "int cargo(int,int,int)",
            "int failures(int)",
            "int look(int,int)",
            "int seen(int)",
            "int ahead(int)",
            "int mark(int)",
            "int best()");

    public static void main(String[] args) {
        Check.due("BERTH", 1, MooringTree.BERTH);
        Check.due("LEAVE", 2, MooringTree.LEAVE);
        Check.due("public", true, Modifier.isPublic(MooringTree.class.getModifiers()));
        Check.due("final", true, Modifier.isFinal(MooringTree.class.getModifiers()));
        Check.due("the face", new TreeSet<>(FACE), shown());
        Check.end();
    }

    private static Set<String> shown() {
        Set<String> shown = new TreeSet<>();
        for (Field field : MooringTree.class.getDeclaredFields()) {
            if (isShown(field)) {
                shown.add(field.getName());
            }
        }
        for (Constructor<?> constructor : MooringTree.class.getDeclaredConstructors()) {
            if (isShown(constructor)) {
                shown.add("MooringTree" + list(constructor.getParameterTypes()));
            }
        }
        for (Method method : MooringTree.class.getDeclaredMethods()) {
            if (isShown(method)) {
                shown.add(method.getReturnType() + " " + method.getName() + list(method.getParameterTypes()));
            }
        }
        return shown;
    }

    private static boolean isShown(Member member) {
        return !Modifier.isPrivate(member.getModifiers()) && !member.isSynthetic();
    }

    private static String list(Class<?>[] types) {
        StringBuilder list = new StringBuilder("(");
        for (Class<?> type : types) {
            list.append(list.length() > 1 ? "," : "").append(type.getName());
        }
        return list.append(")").toString();
    }
}
