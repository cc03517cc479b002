import java.lang.reflect.Constructor;
import java.lang.reflect.Field;
import java.lang.reflect.Method;
import java.lang.reflect.Modifier;
import java.util.Set;
import java.util.TreeSet;

/** The constants and members of the face, and none beside them. */
public final class FaceTest {
    public static void main(String[] args) {
        constantsHaveTheirValues();
        faceIsTheDocumentsAlone();
        Check.end();
    }

    private static void constantsHaveTheirValues() {
        Check.due("BAD", SnapshotVault.BAD, -1);
        Check.due("NONE", SnapshotVault.NONE, -2);
        Check.due("DIRTY", SnapshotVault.DIRTY, -3);
        Check.due("NOTHING", SnapshotVault.NOTHING, -4);
        Check.due("CLASH", SnapshotVault.CLASH, -5);
        Check.due("FULL", SnapshotVault.FULL, -6);
        Check.due("BEHIND", SnapshotVault.BEHIND, -7);
    }

    private static void faceIsTheDocumentsAlone() {
        Set<String> want = new TreeSet<>(Set.of(
                "BAD int", "NONE int", "DIRTY int", "NOTHING int", "CLASH int", "FULL int",
                "BEHIND int", "new()",
                "boolean write(int,int,long,int)", "boolean remove(int,int)",
                "boolean stage(int,int)", "int commit(int)", "boolean branch(int,int)",
                "boolean drop(int,int)", "int checkout(int,int)", "int merge(int,int)",
                "int pick(int,int)", "int rebase(int,int)", "int collect(int)",
                "int send(int,int)", "int current(int)", "int tip(int,int)",
                "boolean holds(int,int)", "int commits()", "int parent(int,int)",
                "long text(int,int)", "long working(int,int)", "long staged(int,int)",
                "int base(int,int)"));
        Set<String> got = new TreeSet<>();
        Set<String> privateMethods = new TreeSet<>();
        for (Field field : SnapshotVault.class.getDeclaredFields()) {
            if (!Modifier.isPrivate(field.getModifiers())) {
                got.add(field.getName() + " " + field.getType());
            }
        }
        for (Constructor<?> made : SnapshotVault.class.getDeclaredConstructors()) {
            got.add("new" + types(made.getParameterTypes()));
        }
        for (Method method : SnapshotVault.class.getDeclaredMethods()) {
            if (Modifier.isPrivate(method.getModifiers())) {
                privateMethods.add(method.getName());
            } else {
                got.add(method.getReturnType() + " " + method.getName()
                        + types(method.getParameterTypes()));
            }
        }
        Check.yes("the face " + got, got.equals(want));
        for (String member : want) {
            for (String name : privateMethods) {
                Check.no(name + " is private and public", member.contains(" " + name + "("));
            }
        }
        Check.yes("final", Modifier.isFinal(SnapshotVault.class.getModifiers()));
        Check.yes("public", Modifier.isPublic(SnapshotVault.class.getModifiers()));
    }

    private static String types(Class<?>[] types) {
        StringBuilder row = new StringBuilder();
        for (Class<?> type : types) {
            row.append(row.length() == 0 ? "" : ",").append(type);
        }
        return "(" + row + ")";
    }
}
