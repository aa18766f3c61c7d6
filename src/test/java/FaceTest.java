import java.lang.reflect.Constructor;
import java.lang.reflect.Field;
import java.lang.reflect.Member;
import java.lang.reflect.Method;
import java.lang.reflect.Modifier;
import java.util.Set;
import java.util.TreeSet;

/** The public face of the document and rules 1, 2, 5 and 11 of LANGUAGE.md, as far as the class file shows them. */
public final class FaceTest {
    private static final String NONE = "java.util.NoSuchElementException";
    private static final String ARGUMENT = "java.lang.IllegalArgumentException";
    private static final String STATE = "java.lang.IllegalStateException";
    private static final String INDEX = "java.lang.IndexOutOfBoundsException";

    public static void main(String[] args) {
        classIsFinal();
        membersAreTheFace();
        insideIsHidden();
        Check.end();
    }

    private static void classIsFinal() {
        int modifiers = BudgetKernel.class.getModifiers();
        Check.isTrue("public", Modifier.isPublic(modifiers));
        Check.isTrue("final", Modifier.isFinal(modifiers));
        Check.isTrue("no package", BudgetKernel.class.getPackageName().isEmpty());
    }

    private static void membersAreTheFace() {
        Set<String> due = new TreeSet<>(Set.of(
                "public BudgetKernel()",
                "public void BudgetKernel.source(int,int,int,int,int,int,int) throws " + NONE + "," + ARGUMENT + "," + STATE,
                "public boolean BudgetKernel.base(int,int,int,int) throws " + NONE + "," + ARGUMENT + "," + STATE,
                "public int BudgetKernel.event(int) throws " + NONE));
        due.addAll(Set.of(
                "public int BudgetKernel.tick()",
                "public int BudgetKernel.ticks(int) throws " + ARGUMENT,
                "public int BudgetKernel.about(int,int) throws " + NONE + "," + INDEX,
                "public int BudgetKernel.task(int,int) throws " + NONE + "," + INDEX,
                "public int BudgetKernel.bound(int) throws " + NONE,
                "public int BudgetKernel.used(int,boolean,int,int) throws " + NONE + "," + INDEX,
                "public int BudgetKernel.floor(int) throws " + ARGUMENT,
                "public int BudgetKernel.time()"));
        Set<String> got = new TreeSet<>();
        Set<String> faceNames = new TreeSet<>();
        for (Constructor<?> constructor : BudgetKernel.class.getDeclaredConstructors()) {
            got.add(constructor.toString());
        }
        for (Method method : BudgetKernel.class.getDeclaredMethods()) {
            if (!Modifier.isPrivate(method.getModifiers())) {
                got.add(method.toString());
                faceNames.add(method.getName());
            }
        }
        Check.isTrue("the face is " + got, got.equals(due));
        for (Method method : BudgetKernel.class.getDeclaredMethods()) {
            boolean hidden = Modifier.isPrivate(method.getModifiers());
            Check.isTrue("name of " + method, !hidden || !faceNames.contains(method.getName()));
            Check.isTrue("parameters of " + method, method.getParameterCount() <= 7);
        }
    }

    private static void insideIsHidden() {
        fieldsAreKept(BudgetKernel.class);
        for (Field field : BudgetKernel.class.getDeclaredFields()) {
            Check.isTrue("private " + field, isPrivate(field));
        }
        Class<?>[] inside = BudgetKernel.class.getDeclaredClasses();
        Check.isTrue("at most some twelve classes", inside.length < 12);
        for (Class<?> nested : inside) {
            int modifiers = nested.getModifiers();
            Check.isTrue("static " + nested, Modifier.isStatic(modifiers));
            Check.isTrue("not for others " + nested, !Modifier.isPublic(modifiers) && !Modifier.isProtected(modifiers));
            fieldsAreKept(nested);
        }
    }

    private static void fieldsAreKept(Class<?> type) {
        int own = 0;
        for (Field field : type.getDeclaredFields()) {
            if (Modifier.isStatic(field.getModifiers())) {
                Check.isTrue("final " + field, Modifier.isFinal(field.getModifiers()));
            } else {
                own++;
            }
        }
        Check.isTrue("some twenty fields in " + type, own <= 20);
    }

    private static boolean isPrivate(Member member) {
        return Modifier.isPrivate(member.getModifiers());
    }
}
