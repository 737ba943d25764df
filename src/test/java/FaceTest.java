import java.lang.reflect.Constructor;
import java.lang.reflect.Field;
import java.lang.reflect.Method;
import java.lang.reflect.Modifier;
import java.util.Set;
import java.util.TreeSet;

/** The public face: the members of the document and no other that is not private. */
public final class FaceTest {
    public static void main(String[] args) {
        Checks checks = new Checks();
        Set<String> due = new TreeSet<>(Set.of(
            "public static final int CellTransport.REFUSED", "public static final int CellTransport.OUTSIDE",
            "public CellTransport()",
            "public int CellTransport.surface(int,int,int,int,int)", "public int CellTransport.token(int)",
            "public int CellTransport.cell(int,int,int,int)", "public int CellTransport.undefine(int)"));
        due.addAll(Set.of(
            "public int CellTransport.source(int,int)", "public void CellTransport.seed(int)",
            "public int CellTransport.skip(int)", "public int CellTransport.state()",
            "public int CellTransport.run(int)", "public int CellTransport.where(int,int)",
            "public int CellTransport.reach(int,int,int)", "public int CellTransport.tally(int,int)",
            "public int CellTransport.crossed(int,int)"));
        due.addAll(Set.of("public int CellTransport.count(int)", "public void CellTransport.clear()"));
        Set<String> seen = new TreeSet<>();
        for (Field field : CellTransport.class.getDeclaredFields()) {
            addUnlessPrivate(seen, field.getModifiers(), field.toString());
        }
        for (Constructor<?> constructor : CellTransport.class.getDeclaredConstructors()) {
            addUnlessPrivate(seen, constructor.getModifiers(), constructor.toString());
        }
        for (Method method : CellTransport.class.getDeclaredMethods()) {
            addUnlessPrivate(seen, method.getModifiers(), method.toString());
        }
        for (String member : due) {
            checks.due("has " + member, seen.contains(member) ? 1 : 0, 1);
        }
        for (String member : seen) {
            checks.due("may have " + member, due.contains(member) ? 1 : 0, 1);
        }
        int modifiers = CellTransport.class.getModifiers();
        checks.due("public and final", modifiers, Modifier.PUBLIC | Modifier.FINAL);
        checks.due("REFUSED", CellTransport.REFUSED, -1);
        checks.due("OUTSIDE", CellTransport.OUTSIDE, 6);
        checks.end();
    }

    private static void addUnlessPrivate(Set<String> seen, int modifiers, String member) {
        if (!Modifier.isPrivate(modifiers)) {
            seen.add(member);
        }
    }
}
