import java.lang.reflect.Constructor;
import java.lang.reflect.Field;
import java.lang.reflect.Method;
import java.lang.reflect.Modifier;
import java.util.TreeSet;

/** The public face: what the document names, and no more. */
public final class FaceTest {
    private static final String[] FACE = {
        "public static final int UndoCellar.NONE",
        "public UndoCellar()",
        "public int UndoCellar.setSpace(int) throws java.lang.IllegalArgumentException,java.lang.IllegalStateException",
        "public int UndoCellar.begin() throws java.lang.IllegalStateException",
        "public int UndoCellar.write(int,int,int) throws java.lang.IndexOutOfBoundsException,"
            + "java.lang.IllegalArgumentException,java.lang.IllegalStateException",
        "public int UndoCellar.read(int,int) throws java.lang.IndexOutOfBoundsException,"
            + "java.lang.IllegalStateException,java.util.NoSuchElementException",
        "public int UndoCellar.readAt(int,int) throws java.lang.IndexOutOfBoundsException,"
            + "java.lang.IllegalArgumentException,java.util.NoSuchElementException",
        "public int UndoCellar.save(int) throws java.lang.IndexOutOfBoundsException,java.lang.IllegalStateException",
        "public int UndoCellar.undoTo(int,int) throws java.lang.IndexOutOfBoundsException,"
            + "java.lang.IllegalStateException,java.lang.IllegalArgumentException",
        "public int UndoCellar.undo(int) throws java.lang.IndexOutOfBoundsException,java.lang.IllegalStateException",
        "public int UndoCellar.commit(int) throws java.lang.IndexOutOfBoundsException,java.lang.IllegalStateException",
        "public int UndoCellar.moment()",
        "public int UndoCellar.transactions()",
        "public int UndoCellar.now(int) throws java.lang.IndexOutOfBoundsException",
        "public int UndoCellar.versionAt(int,int) throws java.lang.IndexOutOfBoundsException,"
            + "java.lang.IllegalArgumentException",
        "public int UndoCellar.lockOf(int) throws java.lang.IndexOutOfBoundsException",
        "public int UndoCellar.slotOf(int,int) throws java.lang.IndexOutOfBoundsException",
        "public boolean UndoCellar.isMarked(int,int) throws java.lang.IndexOutOfBoundsException",
        "public int UndoCellar.marked()",
        "public int UndoCellar.records()",
        "public int UndoCellar.dropped()",
    };

    public static void main(String[] args) {
        TreeSet<String> want = new TreeSet<String>();
        for (String member : FACE) {
            want.add(member);
        }
        TreeSet<String> got = new TreeSet<String>();
        TreeSet<String> publicNames = new TreeSet<String>();
        TreeSet<String> privateNames = new TreeSet<String>();
        for (Field field : UndoCellar.class.getDeclaredFields()) {
            if (!Modifier.isPrivate(field.getModifiers())) {
                got.add(field.toString());
            }
        }
        for (Constructor<?> constructor : UndoCellar.class.getDeclaredConstructors()) {
            got.add(constructor.toString());
        }
        for (Method method : UndoCellar.class.getDeclaredMethods()) {
            if (Modifier.isPrivate(method.getModifiers())) {
                privateNames.add(method.getName());
            } else {
                publicNames.add(method.getName());
                got.add(method.toString());
            }
        }
        privateNames.retainAll(publicNames);
        Script.due("the face", got.toString(), want.toString());
        Script.due("private methods with a public one's name", privateNames.toString(), "[]");
        Script.due("NONE", String.valueOf(UndoCellar.NONE), "-1");
        Script.due("a final class", String.valueOf(Modifier.isFinal(UndoCellar.class.getModifiers())), "true");
        Script.end("FaceTest");
    }
}
