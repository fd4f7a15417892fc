import java.lang.reflect.Constructor;
import java.lang.reflect.Field;
import java.lang.reflect.Method;
import java.lang.reflect.Modifier;
import java.util.Set;
import java.util.TreeSet;

/** The public face as the document tells it, and rule 1 of the language. */
public final class FaceTest {
    private static final String[] FACE = {
        "int bed(int,int,int)", "int bedOf(int,int)", "int comes(int)", "int oyster(int,int)", "int of(int,int)",
        "int change(int,int,int)", "int open(int)", "int go(int)", "int now(int)", "int ahead(int,int,int)",
        "int worth(int,int)", "int hidden(int)", "int told(int)", "int dive(int)", "int sow(int,int)",
        "int kindFor(int,int)", "int weightFor(int,int)", "int comesFor(int,int)", "int coldFor(int,int)",
        "int room(int,int,int)", "int alike(int,int)", "int string(int)", "int pairs(int)", "int match()",
        "int fits(int,int)", "int weighed(int,int)", "int kinds(int,int)", "int storms(int)", "long odds(int,int)",
        "int seed(int)", "int feed(int,int)", "int wipe()", "int text()", "int hold(int,int)", "int as(int,int)",
        "int sheet(int,int,int)", "int write(int,int,int)", "int copy(int,int,int,int,int)", "int load(int)",
        "int judge(int)", "int image()", "int undo()", "int tear()", "int count(int)", "int status(int)"};

    private static String told(Method m) {
        StringBuilder told = new StringBuilder(m.getReturnType().getName()).append(' ').append(m.getName()).append('(');
        String comma = "";
        for (Class<?> c : m.getParameterTypes()) {
            told.append(comma).append(c.getName());
            comma = ",";
        }
        return told.append(')').toString();
    }

    public static void main(String[] args) {
        Class<?> c = OysterSecrets.class;
        if (!Modifier.isPublic(c.getModifiers()) || !Modifier.isFinal(c.getModifiers())) {
            Due.fault("the class isn't public and final");
        }
        Set<String> face = new TreeSet<>();
        Set<String> names = new TreeSet<>();
        for (Method m : c.getDeclaredMethods()) {
            if (!Modifier.isPrivate(m.getModifiers())) {
                face.add(told(m));
                names.add(m.getName());
            }
        }
        if (!face.equals(new TreeSet<>(Set.of(FACE)))) {
            Due.fault("the face is " + face);
        }
        for (Method m : c.getDeclaredMethods()) {
            if (Modifier.isPrivate(m.getModifiers()) && names.contains(m.getName())) {
                Due.fault("a private method bears the public name " + m.getName());
            }
        }
        for (Field f : c.getDeclaredFields()) {
            boolean isConstant = Modifier.isStatic(f.getModifiers());
            if (!Modifier.isPrivate(f.getModifiers()) || isConstant && !Modifier.isFinal(f.getModifiers())) {
                Due.fault("the field " + f.getName() + " isn't private, or static and not final");
            }
        }
        Constructor<?>[] constructors = c.getDeclaredConstructors();
        if (constructors.length != 1 || constructors[0].getParameterCount() != 0
            || !Modifier.isPublic(constructors[0].getModifiers())) {
            Due.fault("the constructor isn't the one of the face");
        }
        for (Class<?> inner : c.getDeclaredClasses()) {
            boolean isHidden = !Modifier.isPublic(inner.getModifiers()) && !Modifier.isProtected(inner.getModifiers());
            if (!isHidden || !Modifier.isStatic(inner.getModifiers())) {
                Due.fault("the class " + inner + " isn't static and hidden");
            }
        }
        Due.end();
    }
}
