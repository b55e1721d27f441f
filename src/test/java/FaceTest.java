import java.lang.reflect.Constructor;
import java.lang.reflect.Field;
import java.lang.reflect.Method;
import java.lang.reflect.Modifier;
import java.util.Set;
import java.util.TreeSet;

/** The public face, and the rules of LANGUAGE.md about it. */
public final class FaceTest {
    private static final String[] METHODS = {
        "int assemble(int)", "int start(int,int)", "int halt(int)", "int setRegister(int,int,int)",
        "int setWord(int,int)", "int setSlot(int,int)", "int set(int,int)",
        "int setBreakpoint(int,boolean)", "int run(int)", "int append(int)", "int clearText()",
        "int fault()", "int undo()", "int state(int)", "int programCounter(int)",
        "int register(int,int)", "int word(int)", "int operation(int)", "int operand(int,int)",
        "int slot(int)", "int setting(int)", "int breakpoint(int)", "int cycle()", "int idle()",
        "int executed(int)", "int lent(int)", "int starved(int)", "int trace(int,int)",
        "float use()", "int nextThread()", "int cyclesLeft()", "int cyclesIf(int,int)",
        "int bestLend()", "int finalWord(int)"};

    private static final String[] CONSTANTS = {
        "NO_SUCH=-100001", "BAD_VALUE=-100002", "BAD_TEXT=-100003", "TOO_MANY=-100004",
        "NONE=-100005", "LATENCY=0", "LEND=1", "HALTED=0", "READY=1", "LOADING=2", "AT_BARRIER=3"};

    public static void main(String[] args) throws Exception {
        Check check = new Check("FaceTest");
        check.due("public and final", BarrelProcessor.class.getModifiers(),
                Modifier.PUBLIC | Modifier.FINAL);
        check.dueText("the methods", openMethods().toString(), sorted(METHODS).toString());
        check.dueText("the constants", openFields().toString(), sorted(CONSTANTS).toString());
        Constructor<?>[] constructors = BarrelProcessor.class.getDeclaredConstructors();
        check.due("constructors", constructors.length, 1);
        check.due("its parameters", constructors[0].getParameterCount(), 0);
        check.due("it is public", constructors[0].getModifiers(), Modifier.PUBLIC);
        innerClasses(check);
        check.finish();
    }

    private static Set<String> sorted(String[] texts) {
        Set<String> all = new TreeSet<>();
        for (String text : texts) {
            all.add(text);
        }
        return all;
    }

    private static Set<String> openMethods() {
        Set<String> all = new TreeSet<>();
        for (Method method : BarrelProcessor.class.getDeclaredMethods()) {
            if (!Modifier.isPrivate(method.getModifiers())) {
                StringBuilder text = new StringBuilder();
                text.append(method.getReturnType()).append(' ').append(method.getName());
                text.append('(');
                String comma = "";
                for (Class<?> type : method.getParameterTypes()) {
                    text.append(comma).append(type);
                    comma = ",";
                }
                all.add(text.append(')').toString());
            }
        }
        return all;
    }

    private static Set<String> openFields() throws IllegalAccessException {
        Set<String> all = new TreeSet<>();
        for (Field field : BarrelProcessor.class.getDeclaredFields()) {
            if (!Modifier.isPrivate(field.getModifiers())) {
                boolean isConstant = Modifier.isStatic(field.getModifiers())
                        && Modifier.isFinal(field.getModifiers());
                all.add(isConstant ? field.getName() + "=" + field.getInt(null) : "open field");
            }
        }
        return all;
    }

    private static void innerClasses(Check check) {
        Set<String> face = new TreeSet<>();
        for (Method method : BarrelProcessor.class.getDeclaredMethods()) {
            if (Modifier.isPublic(method.getModifiers())) {
                face.add(method.getName());
            }
        }
        for (Method method : BarrelProcessor.class.getDeclaredMethods()) {
            boolean isHidden = !Modifier.isPublic(method.getModifiers());
            check.due("the face's name " + method.getName() + " on a private method",
                    isHidden && face.contains(method.getName()) ? 1 : 0, 0);
        }
        for (Class<?> inner : BarrelProcessor.class.getDeclaredClasses()) {
            check.due(inner.getName() + " is private", inner.getModifiers() & Modifier.PRIVATE,
                    Modifier.PRIVATE);
            check.due(inner.getName() + " is static", inner.getModifiers() & Modifier.STATIC,
                    Modifier.STATIC);
            for (Method method : inner.getDeclaredMethods()) {
                check.due("the face's name " + method.getName() + " in " + inner.getName(),
                        face.contains(method.getName()) ? 1 : 0, 0);
            }
        }
    }
}
