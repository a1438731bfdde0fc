import java.lang.reflect.Constructor;
import java.lang.reflect.Field;
import java.lang.reflect.Member;
import java.lang.reflect.Method;
import java.lang.reflect.Modifier;
import java.util.ArrayList;
import java.util.Arrays;
import java.util.Collections;
import java.util.List;
import java.util.TreeSet;

/** The public face of the document: each member as it stands there, and no other that is not private. */
public final class FaceTest {
    private static final String I = " throws IndexOutOfBoundsException";
    private static final String A = " throws IllegalArgumentException";
    private static final String S = " throws IllegalStateException";
    private static final String IA = I + ", IllegalArgumentException";
    private static final String IS = I + ", IllegalStateException";
    private static final String[] METHODS = {
        "int append(int, int, int, int, int)" + S, "int load(int)" + IA, "int errorKind()", "int errorOffset()",
        "int tick()", "int blockCount()", "int lengthOf(int)" + I, "int depthOf(int)" + I, "boolean isBend(int)" + I,
        "int limitOf(int)" + I, "boolean isClear(int)" + I, "int trainIn(int)" + I, "int lostIn(int)" + I,
        "int departuresFrom(int)" + I, "int obstacle(int)" + I, "int freeLevers()", "int emptyBlocks()",
        "int deepestBlock()", "int differentDepths()", "int trainCount()", "int blockOf(int)" + I,
        "int positionOf(int)" + I, "int wagonsOf(int)" + I, "int topSpeedOf(int)" + I, "int speedOf(int)" + I,
        "int waitsOf(int)" + I, "int passages(int, int)" + I, "int differentPassages()", "int ticksToEnd(int)" + I,
        "int trainAhead(int)" + I, "int clearBlocksAhead(int)" + I, "boolean canEnter(int)" + I,
        "int blockAfter(int, int)" + IA, "int ticksUntilWait(int)" + I, "int totalWagons()", "int lostWagons()",
        "int removedWagons()", "int sharedBlocks()", "int wagonDifference()", "double meanDepth()",
        "float waitShare()", "int advance(int)" + A + ", IllegalStateException", "int pull(int)" + IS,
        "int setDanger(int)" + IS, "int repair(int)" + IS, "int removeWagons(int)" + I,
        "int addWagons(int, int)" + IA + ", IllegalStateException", "int setTopSpeed(int, int)" + IA,
        "int restore(int)" + IS, "int undo()" + S, "int save(int)" + I, "int writeRing()", "int writeTrain(int)" + I,
        "int outputByte(int)" + I,
    };

    public static void main(String[] args) {
        Class<?> face = PeatRailway.class;
        Check.equal("the class is public and final", face.getModifiers(), Modifier.PUBLIC | Modifier.FINAL);
        Check.same("the methods", methods(face).toString(), new TreeSet<>(Arrays.asList(METHODS)).toString());
        Check.same("the constants", open(face.getDeclaredFields()).toString(), "[NONE]");
        Check.equal("NONE", PeatRailway.NONE, -1);
        Constructor<?>[] makers = face.getDeclaredConstructors();
        Check.equal("constructors", makers.length, 1);
        Check.equal("parameters of the constructor", makers[0].getParameterCount(), 0);
        Check.equal("the constructor is public", makers[0].getModifiers(), Modifier.PUBLIC);
        for (Class<?> inner : face.getDeclaredClasses()) {
            Check.equal(inner + " is static", Modifier.isStatic(inner.getModifiers()), true);
            Check.equal(inner + " is public", Modifier.isPublic(inner.getModifiers()), false);
        }
        privateNames(face);
        Check.end();
    }

    private static TreeSet<String> methods(Class<?> face) {
        TreeSet<String> found = new TreeSet<>();
        for (Method method : face.getDeclaredMethods()) {
            if (Modifier.isPrivate(method.getModifiers())) {
                continue;
            }
            String text = method.getReturnType().getSimpleName() + " " + method.getName()
                    + names(method.getParameterTypes()).toString().replace('[', '(').replace(']', ')');
            List<String> thrown = names(method.getExceptionTypes());
            found.add(thrown.isEmpty() ? text : text + " throws " + String.join(", ", thrown));
            Check.equal(text + " is public and no more", method.getModifiers(), Modifier.PUBLIC);
        }
        return found;
    }

    private static List<String> names(Class<?>[] types) {
        List<String> names = new ArrayList<>();
        for (Class<?> type : types) {
            names.add(type.getSimpleName());
        }
        return names;
    }

    private static List<String> open(Field[] fields) {
        List<String> names = new ArrayList<>();
        for (Member field : fields) {
            if (!Modifier.isPrivate(field.getModifiers())) {
                names.add(field.getName());
            }
        }
        Collections.sort(names);
        return names;
    }

    private static void privateNames(Class<?> face) {
        TreeSet<String> open = new TreeSet<>();
        for (Method method : face.getDeclaredMethods()) {
            if (Modifier.isPublic(method.getModifiers())) {
                open.add(method.getName());
            }
        }
        List<Class<?>> all = new ArrayList<>(Arrays.asList(face.getDeclaredClasses()));
        all.add(face);
        for (Class<?> one : all) {
            for (Method method : one.getDeclaredMethods()) {
                boolean clash = !Modifier.isPublic(method.getModifiers()) && open.contains(method.getName());
                Check.equal(method + " bears the name of a public method", clash, false);
            }
        }
    }
}
