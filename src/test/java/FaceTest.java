import java.lang.reflect.Constructor;
import java.lang.reflect.Field;
import java.lang.reflect.Method;
import java.lang.reflect.Modifier;
import java.util.Set;
import java.util.TreeSet;

/** The public face: every constant, constructor and method of the document, and no other. */
public final class FaceTest {
    private static final String[] FACE = {
        "int feed(int,int,int,int,int)", "boolean end(int)", "int fault(int)", "int text(int)", "int rule(int)",
        "int house(int,int)", "int form(int,int)", "boolean law(int)", "int sham(int,int)", "int hang(int,int)",
        "int whiten(int)", "int piano(int)", "int move(int,int)", "int give(int)", "int days(int)",
        "boolean moods(int)", "int years(int,long)", "int status(int)", "int undo()", "int log(int,int)",
        "int ahead(int,int)", "int soonest(int)", "int visits(int)", "int empty(int)", "int goesTo()",
        "int least(int,int)", "int rid()", "int white(int)", "int treaties(int,int)",
        "int game(int,int,int,int,int)", "int rests(int,int,int)", "int seen(int,int,boolean)", "int who(int,int)",
        "int best(int)", "int follows(int,int)", "int ring(int)", "int was(int,int,boolean)", "int forms()",
        "int odds(int,int)", "int shares(int,int)", "int most(int)", "int used(int)", "int near(int)", "int image()",
        "int back()", "int count(int)",
    };

    private static String told(Method method) {
        StringBuilder text = new StringBuilder();
        text.append(method.getReturnType().getName()).append(' ').append(method.getName()).append('(');
        for (Class<?> type : method.getParameterTypes()) {
            text.append(text.charAt(text.length() - 1) == '(' ? "" : ",").append(type.getName());
        }
        return text.append(')').toString();
    }

    public static void main(String[] args) {
        Set<String> wanted = new TreeSet<>(Set.of(FACE));
        Set<String> names = new TreeSet<>();
        for (String method : FACE) {
            names.add(method.substring(method.indexOf(' ') + 1, method.indexOf('(')));
        }
        for (Method method : StainStreet.class.getDeclaredMethods()) {
            boolean isPublic = Modifier.isPublic(method.getModifiers());
            Check.due(told(method) + " is of the face", isPublic, wanted.remove(told(method)));
            Check.due(told(method) + " is public or private", isPublic || Modifier.isPrivate(method.getModifiers()),
                    true);
            Check.due(told(method) + " is static", isPublic && Modifier.isStatic(method.getModifiers()), false);
        }
        Check.due("methods that are not there: " + wanted, wanted.size(), 0);
        int constants = 0;
        for (Field field : StainStreet.class.getDeclaredFields()) {
            int modifiers = field.getModifiers();
            constants += Modifier.isPublic(modifiers) ? 1 : 0;
            Check.due(field.getName() + " is private or a constant",
                    Modifier.isPrivate(modifiers) || Modifier.isPublic(modifiers), true);
            Check.due(field.getName() + " is final if static",
                    !Modifier.isStatic(modifiers) || Modifier.isFinal(modifiers), true);
        }
        Check.due("public constants", constants, 2);
        Check.due("NONE", StainStreet.NONE, -1);
        Check.due("HIDDEN", StainStreet.HIDDEN, -1000000);
        Constructor<?>[] constructors = StainStreet.class.getDeclaredConstructors();
        Check.due("constructors", constructors.length, 1);
        Check.due("it is public", Modifier.isPublic(constructors[0].getModifiers()), true);
        Check.due("it takes nothing", constructors[0].getParameterCount(), 0);
        Check.due("the class is final", Modifier.isFinal(StainStreet.class.getModifiers()), true);
        for (Class<?> inside : StainStreet.class.getDeclaredClasses()) {
            Check.due(inside + " is private and static",
                    Modifier.isPrivate(inside.getModifiers()) && Modifier.isStatic(inside.getModifiers()), true);
            for (Method method : inside.getDeclaredMethods()) {
                Check.due(told(method) + " bears no name of the face", names.contains(method.getName()), false);
            }
        }
        Check.end("FaceTest");
    }
}
