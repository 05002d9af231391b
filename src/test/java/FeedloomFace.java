import java.lang.reflect.Constructor;
import java.lang.reflect.Field;
import java.lang.reflect.Member;
import java.lang.reflect.Method;
import java.lang.reflect.Modifier;
import java.util.ArrayList;
import java.util.Arrays;
import java.util.List;
import java.util.TreeSet;

/** The face is the document's: no member less, none more, each with the exceptions in the document's order. */
public final class FeedloomFace {
    private static final String[] FACE = {
        "public static final int NONE",
        "public static final int HIDE",
        "public static final int SHOW",
        "public Feedloom()",
        "public int pass(int) throws IllegalArgumentException, IllegalStateException",
        "public int now()",
        "public int setThreshold(int) throws IllegalArgumentException",
        "public int setWindow(int) throws IllegalArgumentException",
        "public int likeness(long, long) throws IllegalArgumentException",
        "public int addSource() throws IllegalStateException",
        "public int fetch(int, int, int, long, int)"
            + " throws IndexOutOfBoundsException, IllegalArgumentException, IllegalStateException",
        "public int items()",
        "public int withIdentifier(int, int) throws NoSuchElementException",
        "public int withLink(int) throws NoSuchElementException",
        "public long title(int, int) throws IndexOutOfBoundsException, NoSuchElementException",
        "public int versions(int) throws IndexOutOfBoundsException",
        "public int latestMajor(int) throws IndexOutOfBoundsException",
        "public int sourcesOf(int) throws IndexOutOfBoundsException",
        "public int timeOf(int) throws IndexOutOfBoundsException",
        "public int addRule(long, long, int, int, int) throws IllegalArgumentException, IllegalStateException",
        "public int dropRule(int) throws IndexOutOfBoundsException",
        "public int tagsOf(int) throws IndexOutOfBoundsException",
        "public boolean isHidden(int) throws IndexOutOfBoundsException",
        "public int matches(int) throws IndexOutOfBoundsException",
        "public int addRiver(int, int) throws IllegalArgumentException, IllegalStateException",
        "public int riverSize(int) throws IndexOutOfBoundsException",
        "public int riverAt(int, int) throws IndexOutOfBoundsException, NoSuchElementException",
        "public int riverAtAnew(int, int) throws IndexOutOfBoundsException, NoSuchElementException",
        "public int rankOf(int, int) throws IndexOutOfBoundsException, NoSuchElementException",
        "public int unread(int) throws IndexOutOfBoundsException",
        "public int nextUnread(int) throws IndexOutOfBoundsException, NoSuchElementException",
        "public float readShare(int) throws IndexOutOfBoundsException, ArithmeticException",
        "public int addDevice() throws IllegalStateException",
        "public boolean mark(int, int, boolean) throws IndexOutOfBoundsException, IllegalStateException",
        "public int markRiver(int, int) throws IndexOutOfBoundsException",
        "public int sync(int) throws IndexOutOfBoundsException",
        "public boolean isRead(int) throws IndexOutOfBoundsException",
        "public boolean isReadOn(int, int) throws IndexOutOfBoundsException, IllegalStateException",
        "public int knownVersions(int, int) throws IndexOutOfBoundsException",
        "public double meanVersions() throws ArithmeticException",
        "public boolean isSound()",
    };

    public static void main(String[] args) {
        TreeSet<String> due = new TreeSet<>(Arrays.asList(FACE));
        TreeSet<String> found = new TreeSet<>();
        TreeSet<String> hidden = new TreeSet<>();
        List<String> faults = new ArrayList<>();
        for (Field field : Feedloom.class.getDeclaredFields()) {
            if (isShown(field)) {
                found.add(modifiers(field) + field.getType().getSimpleName() + " " + field.getName());
            }
        }
        for (Constructor<?> maker : Feedloom.class.getDeclaredConstructors()) {
            if (isShown(maker)) {
                found.add(modifiers(maker) + "Feedloom" + list(maker.getParameterTypes(), "(", ")")
                    + list(maker.getExceptionTypes(), " throws ", ""));
            }
        }
        TreeSet<String> publicNames = new TreeSet<>();
        for (Method method : Feedloom.class.getDeclaredMethods()) {
            if (isShown(method)) {
                publicNames.add(method.getName());
                found.add(modifiers(method) + method.getReturnType().getSimpleName() + " " + method.getName()
                    + list(method.getParameterTypes(), "(", ")")
                    + list(method.getExceptionTypes(), " throws ", ""));
            } else {
                hidden.add(method.getName());
            }
        }
        hidden.retainAll(publicNames);
        if (!hidden.isEmpty()) {
            faults.add("private methods with public names: " + hidden);
        }
        TreeSet<String> missing = new TreeSet<>(due);
        missing.removeAll(found);
        found.removeAll(due);
        if (!missing.isEmpty()) {
            faults.add("missing: " + missing);
        }
        if (!found.isEmpty()) {
            faults.add("not in the document: " + found);
        }
        int kind = Feedloom.class.getModifiers();
        if (!Modifier.isPublic(kind) || !Modifier.isFinal(kind)) {
            faults.add("the class is not public and final");
        }
        for (String fault : faults) {
            System.out.println(fault);
        }
        if (!faults.isEmpty()) {
            System.exit(1);
        }
        System.out.println("the face is as due");
    }

    private static boolean isShown(Member member) {
        return !member.isSynthetic() && !Modifier.isPrivate(member.getModifiers());
    }

    private static String modifiers(Member member) {
        String text = Modifier.toString(member.getModifiers());
        return text.isEmpty() ? "" : text + " ";
    }

    private static String list(Class<?>[] types, String before, String behind) {
        if (types.length == 0 && behind.isEmpty()) {
            return "";
        }
        StringBuilder text = new StringBuilder(before);
        for (int i = 0; i < types.length; i++) {
            text.append(i == 0 ? "" : ", ").append(types[i].getSimpleName());
        }
        return text.append(behind).toString();
    }
}
