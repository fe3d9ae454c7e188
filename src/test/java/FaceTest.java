import java.lang.reflect.Constructor;
import java.lang.reflect.Field;
import java.lang.reflect.Method;
import java.lang.reflect.Modifier;
import java.util.Arrays;
import java.util.List;
import java.util.TreeSet;

/** Promise 1, and the face as the document has it. */
public final class FaceTest {
    private static final List<String> FACE = List.of(
            "int move(int,int,int,int,int,int) IllegalArgumentException IllegalStateException",
            "int patch(int,int,int) IndexOutOfBoundsException IllegalArgumentException IllegalStateException",
            "boolean cancel(int,int,boolean) IndexOutOfBoundsException IllegalStateException",
            "int begin(int) IllegalArgumentException IllegalStateException",
            "int play(int,int,int) IllegalArgumentException IllegalStateException",
            "int of(int,int) IndexOutOfBoundsException IllegalArgumentException",
            "int again(int,int,int) IndexOutOfBoundsException IllegalArgumentException",
            "boolean goesOn()",
            "int winner()",
            "int advantage(int,boolean) IndexOutOfBoundsException",
            "int punish(int,int) IndexOutOfBoundsException",
            "int most(int,int,int) IndexOutOfBoundsException IllegalArgumentException",
            "int mostAt(int,int,int,int) IndexOutOfBoundsException IllegalArgumentException");

    public static void main(String[] args) throws Exception {
        constants();
        members();
        newObject();
        Check.end("FaceTest");
    }

    private static void constants() {
        Check.same("NONE", DuelFrames.NONE, -1);
        Check.same("HIGH", DuelFrames.HIGH, 0);
        Check.same("LOW", DuelFrames.LOW, 1);
        Check.same("MID", DuelFrames.MID, 2);
        Check.same("THROW", DuelFrames.THROW, 3);
        Check.same("STANDS", DuelFrames.STANDS, 0);
        Check.same("MOVE", DuelFrames.MOVE, 1);
        Check.same("HIT", DuelFrames.HIT, 2);
        Check.same("BLOCKS", DuelFrames.BLOCKS, 3);
    }

    private static void members() {
        Class<DuelFrames> face = DuelFrames.class;
        Check.yes("final", Modifier.isFinal(face.getModifiers()));
        Constructor<?>[] made = face.getDeclaredConstructors();
        Check.same("constructors", made.length, 1);
        Check.same("its parameters", made[0].getParameterCount(), 0);
        Check.yes("it is public", Modifier.isPublic(made[0].getModifiers()));
        TreeSet<String> found = new TreeSet<>();
        for (Method method : face.getDeclaredMethods()) {
            if (Modifier.isPrivate(method.getModifiers())) {
                continue;
            }
            Check.yes(method + " is public", Modifier.isPublic(method.getModifiers()));
            found.add(told(method));
        }
        Check.yes("the methods are " + found, found.equals(new TreeSet<>(FACE)));
        int constants = 0;
        for (Field field : face.getDeclaredFields()) {
            if (!Modifier.isPrivate(field.getModifiers())) {
                constants++;
            }
        }
        Check.same("constants", constants, 9);
    }

    private static String told(Method method) {
        StringBuilder text = new StringBuilder();
        text.append(method.getReturnType().getSimpleName()).append(' ').append(method.getName()).append('(');
        String comma = "";
        for (Class<?> type : method.getParameterTypes()) {
            text.append(comma).append(type.getSimpleName());
            comma = ",";
        }
        text.append(')');
        Arrays.stream(method.getExceptionTypes()).forEach(e -> text.append(' ').append(e.getSimpleName()));
        return text.toString();
    }

    private static void newObject() {
        DuelFrames x = new DuelFrames();
        for (int figure = 0; figure < 2; figure++) {
            Check.figure("a new object", x, figure, 0, 0, 0, 0, DuelFrames.NONE, 0, 0, 0);
        }
        Check.no("goesOn", x.goesOn());
        Check.same("winner", x.winner(), DuelFrames.NONE);
        Check.outOfBounds("no move to patch", () -> x.patch(0, 0, 0));
        Check.outOfBounds("no move to cancel", () -> x.cancel(0, 0, true));
        Check.outOfBounds("no move to look at", () -> x.advantage(0, false));
        Check.outOfBounds("no frame", () -> x.again(0, 0, 0));
        Check.notNow("no round to play", () -> x.play(1, 0, 0));
        Check.outOfRange("no move to play", () -> x.play(1, 10, 0));
        Check.same("begin without moves", x.begin(100), 1);
        Check.same("play without moves", x.play(1, 1, 2), 1);
    }
}
