import java.lang.reflect.Constructor;
import java.lang.reflect.Field;
import java.lang.reflect.Method;
import java.lang.reflect.Modifier;
import java.util.ArrayList;
import java.util.List;
import java.util.TreeSet;

/** The public face as the document writes it, and nothing else that is open or static. */
final class FaceTest {
    private static final Check CHECK = new Check("FaceTest");
    private static final String NO_SUCH = "IndexOutOfBoundsException";
    private static final String BAD_ARGUMENT = "IllegalArgumentException";
    private static final String BAD_STATE = "IllegalStateException";

    private static final String[] METHODS = {
        "void column(int,int,int) " + NO_SUCH + " " + BAD_ARGUMENT,
        "int cell(int,int,int) " + NO_SUCH + " " + BAD_ARGUMENT + " " + BAD_STATE,
        "void need(int,int) " + BAD_ARGUMENT,
        "int projector(int,int,int,int,int) " + NO_SUCH + " " + BAD_ARGUMENT + " " + BAD_STATE,
        "void aim(int,int,int) " + NO_SUCH + " " + BAD_ARGUMENT,
        "boolean turn(int,boolean) " + NO_SUCH + " " + BAD_STATE,
        "boolean fail(int,boolean) " + NO_SUCH,
        "int phase(int,int) " + BAD_ARGUMENT,
        "int wind(int) " + BAD_ARGUMENT,
        "int through(int,int,int) " + NO_SUCH,
        "int gives(int,int) " + NO_SUCH,
        "boolean isSharp(int,int) " + NO_SUCH,
        "int light(int) " + NO_SUCH,
        "int blended(int,int) " + NO_SUCH,
        "int covered(int) " + BAD_ARGUMENT,
        "int least()",
        "int leastAnew()",
        "boolean bears(int) " + BAD_ARGUMENT,
        "int breaches()",
        "void curfew(int,int) " + BAD_ARGUMENT,
        "int ready(int,int) " + NO_SUCH + " " + BAD_ARGUMENT,
        "int propose(int,int) " + NO_SUCH + " " + BAD_ARGUMENT,
        "int answer(int,boolean) " + NO_SUCH + " " + BAD_STATE,
        "int scene(int,boolean) " + NO_SUCH,
        "long show(int) " + BAD_ARGUMENT,
        "int pass(int) " + BAD_ARGUMENT + " " + BAD_STATE,
    };

    public static void main(String[] args) {
        constantsAreTheDocuments();
        classIsPublicAndFinal();
        methodsAreTheDocuments();
        nothingElseIsOpen();
        nothingStaticChanges();
        CHECK.end();
    }

    private static void constantsAreTheDocuments() {
        CHECK.due("NONE", FacadeShow.NONE, -1);
        CHECK.due("STONE", FacadeShow.STONE, 0);
        CHECK.due("BRICK", FacadeShow.BRICK, 1);
        CHECK.due("GLASS", FacadeShow.GLASS, 2);
        CHECK.due("EMPTY", FacadeShow.EMPTY, 0);
        CHECK.due("TREE", FacadeShow.TREE, 1);
        CHECK.due("PEOPLE", FacadeShow.PEOPLE, 2);
        CHECK.due("NEST", FacadeShow.NEST, 3);
        TreeSet<String> open = new TreeSet<>();
        for (Field field : FacadeShow.class.getFields()) {
            open.add(field.getName());
            CHECK.due("constant of type int", field.getType() == int.class, true);
        }
        CHECK.isTrue("constants " + open, open.toString().equals("[BRICK, EMPTY, GLASS, NEST, NONE, PEOPLE, STONE, TREE]"));
    }

    private static void classIsPublicAndFinal() {
        int modifiers = FacadeShow.class.getModifiers();
        CHECK.isTrue("public final", Modifier.isPublic(modifiers) && Modifier.isFinal(modifiers));
        CHECK.isTrue("of no other class", FacadeShow.class.getSuperclass() == Object.class
                && FacadeShow.class.getInterfaces().length == 0);
        Constructor<?>[] constructors = FacadeShow.class.getDeclaredConstructors();
        CHECK.due("constructors", constructors.length, 1);
        CHECK.isTrue("the constructor", Modifier.isPublic(constructors[0].getModifiers())
                && constructors[0].getParameterCount() == 0 && constructors[0].getExceptionTypes().length == 0);
    }

    private static String told(Method method) {
        List<String> parameters = new ArrayList<>();
        for (Class<?> parameter : method.getParameterTypes()) {
            parameters.add(parameter.getSimpleName());
        }
        StringBuilder text = new StringBuilder(method.getReturnType().getSimpleName());
        text.append(' ').append(method.getName()).append('(').append(String.join(",", parameters)).append(')');
        for (Class<?> thrown : method.getExceptionTypes()) {
            text.append(' ').append(thrown.getSimpleName());
        }
        return text.toString();
    }

    private static void methodsAreTheDocuments() {
        TreeSet<String> due = new TreeSet<>(List.of(METHODS));
        TreeSet<String> got = new TreeSet<>();
        for (Method method : FacadeShow.class.getDeclaredMethods()) {
            if (Modifier.isPublic(method.getModifiers())) {
                got.add(told(method));
            }
        }
        for (String method : due) {
            CHECK.isTrue("there is " + method, got.contains(method));
        }
        for (String method : got) {
            CHECK.isTrue("the document has " + method, due.contains(method));
        }
    }

    private static void nothingElseIsOpen() {
        TreeSet<String> face = new TreeSet<>();
        for (String method : METHODS) {
            face.add(method.substring(method.indexOf(' ') + 1, method.indexOf('(')));
        }
        for (Class<?> holder : classes()) {
            for (Method method : holder.getDeclaredMethods()) {
                boolean isOfTheFace = holder == FacadeShow.class && face.contains(method.getName());
                CHECK.isTrue(method + " is private or of the face",
                        isOfTheFace == Modifier.isPublic(method.getModifiers())
                        && (isOfTheFace || Modifier.isPrivate(method.getModifiers())));
            }
        }
        for (Field field : FacadeShow.class.getDeclaredFields()) {
            CHECK.isTrue(field + " is private or a constant", Modifier.isPrivate(field.getModifiers())
                    || Modifier.isPublic(field.getModifiers()) && Modifier.isStatic(field.getModifiers()));
        }
        for (Class<?> inside : FacadeShow.class.getDeclaredClasses()) {
            CHECK.isTrue(inside + " is private and static", Modifier.isPrivate(inside.getModifiers())
                    && Modifier.isStatic(inside.getModifiers()));
        }
    }

    private static void nothingStaticChanges() {
        for (Class<?> holder : classes()) {
            for (Field field : holder.getDeclaredFields()) {
                boolean isStatic = Modifier.isStatic(field.getModifiers());
                CHECK.isTrue(field + " is a constant", !isStatic
                        || Modifier.isFinal(field.getModifiers()) && field.getType() == int.class);
            }
            CHECK.isTrue("some twenty fields", java.util.Arrays.stream(holder.getDeclaredFields())
                    .filter(field -> !Modifier.isStatic(field.getModifiers())).count() <= 20);
        }
    }

    private static List<Class<?>> classes() {
        List<Class<?>> all = new ArrayList<>(List.of(FacadeShow.class.getDeclaredClasses()));
        all.add(FacadeShow.class);
        return all;
    }
}
