import java.lang.reflect.Constructor;
import java.lang.reflect.Field;
import java.lang.reflect.Method;
import java.lang.reflect.Modifier;
import java.util.ArrayList;
import java.util.Arrays;
import java.util.List;

/** The class has the document's face and no other member that can be seen. */
public final class FaceTest {
    private static final String FACE = "ahead(int,int):int back():int begin(int):boolean bottom():long "
            + "broke(int,int,int):int broken(long,long):int claim(int):int count(int,int):int doubt(int):int "
            + "face(int,int,int,int):int fault(int):int feed(int,int,int,int,int):int fit(int,int,int):int "
            + "gap(int,int):int heard(long):int how(int):int lead(int,int,int,int):int least(int,int,int):int "
            + "leastSet():int leave(int,boolean):boolean led(int):int line(int):int many(int):int mark():int "
            + "mend(int,int,int,int):int odds(int):boolean orders(int):int pour(int,int,int,int,int):boolean "
            + "read(int,int):long remembered(int,int,int):long ring(int):int rule(int,int,int):int said(int):long "
            + "say(int,int):int script(int,int):int spoken(int,int):long status():int talk(int,int,int):int "
            + "top():long tray(int,int,int):boolean turned(int,long):long word(int,int):long "
            + "write(int,int,long):boolean";

    public static void main(String[] args) {
        Check check = new Check();
        List<String> seen = new ArrayList<>();
        List<String> names = new ArrayList<>();
        for (Method m : AskBack.class.getDeclaredMethods()) {
            if (Modifier.isPrivate(m.getModifiers())) {
                continue;
            }
            check.due(m.getName() + " is public", Modifier.isPublic(m.getModifiers()), true);
            check.due(m.getName() + " is of an object", !Modifier.isStatic(m.getModifiers()), true);
            seen.add(signature(m));
            names.add(m.getName());
        }
        seen.sort(null);
        List<String> want = new ArrayList<>(Arrays.asList(FACE.split(" ")));
        want.sort(null);
        if (!seen.equals(want)) {
            System.out.println("the face is " + seen);
        }
        check.due("the methods are the document's", seen.equals(want), true);
        noPrivateNamesake(check, AskBack.class, names);
        for (Class<?> inside : AskBack.class.getDeclaredClasses()) {
            check.due(inside + " is static", Modifier.isStatic(inside.getModifiers()), true);
            check.due(inside + " is not public", !Modifier.isPublic(inside.getModifiers()), true);
            noPrivateNamesake(check, inside, names);
        }
        for (Field f : AskBack.class.getDeclaredFields()) {
            boolean isNone = f.getName().equals("NONE");
            check.due(f.getName() + " can be seen", !Modifier.isPrivate(f.getModifiers()), isNone);
        }
        Constructor<?>[] makers = AskBack.class.getDeclaredConstructors();
        check.due("constructors", makers.length, 1);
        check.due("the constructor is public", Modifier.isPublic(makers[0].getModifiers()), true);
        check.due("the class is final", Modifier.isFinal(AskBack.class.getModifiers()), true);
        check.due("NONE", AskBack.NONE, -1);
        check.end();
    }

    private static void noPrivateNamesake(Check check, Class<?> in, List<String> names) {
        for (Method m : in.getDeclaredMethods()) {
            boolean inFace = in == AskBack.class && !Modifier.isPrivate(m.getModifiers());
            check.due(in + "." + m.getName() + " has the name of a public one", !inFace && names.contains(m.getName()),
                    false);
        }
    }

    private static String signature(Method m) {
        StringBuilder all = new StringBuilder(m.getName()).append('(');
        for (Class<?> c : m.getParameterTypes()) {
            all.append(all.charAt(all.length() - 1) == '(' ? "" : ",").append(c.getName());
        }
        return all.append("):").append(m.getReturnType().getName()).toString();
    }
}
