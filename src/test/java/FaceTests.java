import java.lang.reflect.Constructor;
import java.lang.reflect.Field;
import java.lang.reflect.Method;
import java.lang.reflect.Modifier;
import java.util.Set;
import java.util.TreeSet;

/** The public face: every constant, constructor and method of the document, and nothing more. */
public final class FaceTests {
    private static final String[] METHODS = {
        "int place(int,int,char)", "int remove(int,int)", "int bleach(int,int)", "char recolour(int,int,char)",
        "int plant(int,int,char,char)", "char setRule(char)", "boolean isEmpty(int,int)", "boolean isLiving(int,int)",
        "boolean isBleached(int,int)", "char colourAt(int,int)", "int ageAt(int,int)", "int neighbours(int,int)",
        "int neighboursOf(int,int,char)", "char birthColour(int,int)", "int livingCount()", "int bleachedCount()",
        "int countOf(char)", "int islandCount()", "int islandCountByMerging()", "int islandSize(int,int)",
        "int largestIsland()", "int islandsOf(char)", "boolean isJoined(int,int,int,int)", "int passTides(int)",
        "boolean wouldLive(int,int)", "int livingAfter(int)", "boolean isStill()", "int tidesUntilStill()",
        "char rule()", "boolean isBirth(int)", "boolean isSurvival(int)", "int tideCount()", "int placedCount()",
        "int removedCount()", "int bornCount()", "int bleachings()", "int washedCount()", "int rowByLiving(int)",
        "char colourByCount(int)", "double meanAge()", "float livingShare()", "boolean isConsistent()",
        "int writeRow(int)", "int writeRule()", "char outputAt(int)", "int appendInput(char)", "int execute()",
        "int syntaxErrorOffset()", "int rejectionReason()", "int rejectionDetail()", "int causeReason()", "int undo()",
        "int saveSnapshot()", "int restoreSnapshot()"};
    private static final String[] CONSTANTS = {
        "OCCUPIED=1", "NO_BUTTON=2", "BLEACHED=3", "OUTSIDE=4", "SAME_RULE=5", "COMMAND_REJECTED=6"};

    private FaceTests() {
    }

    public static void main(String[] args) throws IllegalAccessException {
        Check.begin("the face");
        Check.same("the class", Modifier.PUBLIC | Modifier.FINAL, ButtonReef.class.getModifiers());
        Check.same("the methods", new TreeSet<>(Set.of(METHODS)), methods());
        Check.same("the constants", new TreeSet<>(Set.of(CONSTANTS)), constants());
        Check.same("the number of constructors", 1, ButtonReef.class.getDeclaredConstructors().length);
        for (Constructor<?> constructor : ButtonReef.class.getDeclaredConstructors()) {
            Check.same("the constructor's modifiers", Modifier.PUBLIC, constructor.getModifiers());
            Check.same("the constructor's parameters", 0, constructor.getParameterCount());
        }
        privateMethodsHaveNamesOfTheirOwn();
        Check.end();
    }

    private static Set<String> methods() {
        Set<String> found = new TreeSet<>();
        for (Method method : ButtonReef.class.getDeclaredMethods()) {
            if (!method.isSynthetic() && !Modifier.isPrivate(method.getModifiers())) {
                StringBuilder parameters = new StringBuilder();
                for (Class<?> type : method.getParameterTypes()) {
                    parameters.append(parameters.length() == 0 ? "" : ",").append(type.getName());
                }
                String kind = method.getModifiers() == Modifier.PUBLIC ? "" : "(not just public) ";
                found.add(kind + method.getReturnType().getName() + " " + method.getName() + "(" + parameters + ")");
            }
        }
        return found;
    }

    private static Set<String> constants() throws IllegalAccessException {
        Set<String> found = new TreeSet<>();
        int modifiers = Modifier.PUBLIC | Modifier.STATIC | Modifier.FINAL;
        for (Field field : ButtonReef.class.getDeclaredFields()) {
            if (!field.isSynthetic() && !Modifier.isPrivate(field.getModifiers())) {
                boolean fits = field.getModifiers() == modifiers && field.getType() == int.class;
                found.add(field.getName() + (fits ? "=" + field.get(null) : " is no public static final int"));
            }
        }
        return found;
    }

    /** Rule 1 of LANGUAGE.md, for the methods of the classes inside too. */
    private static void privateMethodsHaveNamesOfTheirOwn() {
        Set<String> names = new TreeSet<>();
        for (String method : METHODS) {
            names.add(method.substring(method.indexOf(' ') + 1, method.indexOf('(')));
        }
        for (Method method : ButtonReef.class.getDeclaredMethods()) {
            if (Modifier.isPrivate(method.getModifiers())) {
                Check.same("a private method " + method.getName(), false, names.contains(method.getName()));
            }
        }
        for (Class<?> inside : ButtonReef.class.getDeclaredClasses()) {
            for (Method method : inside.getDeclaredMethods()) {
                boolean isPrivate = Modifier.isPrivate(method.getModifiers());
                Check.same("a private method inside, " + method.getName(), false,
                    isPrivate && names.contains(method.getName()));
            }
        }
    }
}
