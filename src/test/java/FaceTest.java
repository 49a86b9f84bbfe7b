import java.io.IOException;
import java.lang.reflect.Constructor;
import java.lang.reflect.Field;
import java.lang.reflect.Method;
import java.lang.reflect.Modifier;
import java.nio.charset.StandardCharsets;
import java.nio.file.Files;
import java.nio.file.Path;
import java.util.ArrayList;
import java.util.Arrays;
import java.util.List;
import java.util.Set;
import java.util.TreeSet;
import java.util.regex.Matcher;
import java.util.regex.Pattern;

/** The class shows the document's face and nothing more, and its text keeps to what LANGUAGE.md forbids by words. */
public final class FaceTest {
    private static final String INDEX = "IndexOutOfBoundsException";
    private static final String ARGUMENT = "IllegalArgumentException";
    private static final String STATE = "IllegalStateException";

    private static final String[] FACE = {
        "int addSeller(int) " + INDEX + " " + STATE,
        "int verify(int,int) " + INDEX + " " + ARGUMENT,
        "void setPayouts(int,int,int) " + INDEX + " " + ARGUMENT,
        "void setReserve(int,int,int) " + INDEX + " " + ARGUMENT,
        "int setShare(int,int) " + INDEX + " " + ARGUMENT,
        "int setTax(int) " + ARGUMENT,
        "int sell(int,int,int) " + INDEX + " " + ARGUMENT + " " + STATE,
        "int order(int,int,int) " + INDEX + " " + ARGUMENT + " " + STATE,
        "int refund(int,int,boolean) " + INDEX + " " + ARGUMENT + " " + STATE,
        "int pass(int) " + ARGUMENT + " " + STATE,
        "int fail(int) " + INDEX + " " + STATE,
        "int today()", "int payouts()",
        "int payout(int) " + INDEX, "int sellerOf(int) " + INDEX, "int balance(int) " + INDEX,
        "int balanceByEntries(int) " + INDEX, "int reserve(int) " + INDEX, "int paidTo(int) " + INDEX,
        "int received()", "int refunded()", "int fees()", "int taxes()"};

    private static final String[] SECTIONS = {
        "sellers and rules: addSeller verify setPayouts setReserve setShare setTax",
        "sales: sell order refund",
        "days and payouts: pass fail today payouts payout sellerOf",
        "sums: balance balanceByEntries reserve paidTo received refunded fees taxes"};

    private static final String[] FORBIDDEN = {
        "->", "::", "finally", "synchronized", "assert", "package ", "Float.", "Double.", "Exact(", "System.out",
        "System.nanoTime", "System.currentTimeMillis", "Random", "catch", "equals", "hashCode", "toString", "Object"};

    private static final Pattern CALL = Pattern.compile("^    public (?:int|void) (\\w+)\\(");

    private static int wrong = 0;

    private static void fault(String what) {
        wrong++;
        System.out.println(what);
    }

    private static String told(Method method) {
        StringBuilder text = new StringBuilder();
        text.append(method.getReturnType().getSimpleName()).append(' ').append(method.getName()).append('(');
        Class<?>[] types = method.getParameterTypes();
        for (int i = 0; i < types.length; i++) {
            text.append(i == 0 ? "" : ",").append(types[i].getSimpleName());
        }
        text.append(')');
        for (Class<?> type : method.getExceptionTypes()) {
            text.append(' ').append(type.getSimpleName());
        }
        return text.toString();
    }

    private static void members() {
        Set<String> shown = new TreeSet<>();
        Set<String> shownNames = new TreeSet<>();
        for (Method method : Payoutnet.class.getDeclaredMethods()) {
            if (!Modifier.isPrivate(method.getModifiers())) {
                shown.add(told(method));
                shownNames.add(method.getName());
                if (!Modifier.isPublic(method.getModifiers()) || Modifier.isStatic(method.getModifiers())) {
                    fault("not public, or static: " + method);
                }
            }
        }
        if (!shown.equals(new TreeSet<>(Arrays.asList(FACE)))) {
            fault("the face is " + shown);
        }
        for (Method method : Payoutnet.class.getDeclaredMethods()) {
            if (Modifier.isPrivate(method.getModifiers()) && shownNames.contains(method.getName())) {
                fault("private, with a name of the face: " + method);
            }
        }
        for (Field field : Payoutnet.class.getDeclaredFields()) {
            boolean shownField = !Modifier.isPrivate(field.getModifiers());
            if (shownField && !field.getName().equals("NONE")) {
                fault("shown: " + field);
            }
            if (Modifier.isStatic(field.getModifiers()) && !Modifier.isFinal(field.getModifiers())) {
                fault("static state: " + field);
            }
        }
        for (Constructor<?> constructor : Payoutnet.class.getDeclaredConstructors()) {
            if (!Modifier.isPublic(constructor.getModifiers()) || constructor.getParameterCount() != 0) {
                fault("constructor: " + constructor);
            }
        }
        for (Class<?> inside : Payoutnet.class.getDeclaredClasses()) {
            if (Modifier.isPublic(inside.getModifiers()) || Modifier.isProtected(inside.getModifiers())) {
                fault("shown: " + inside);
            }
        }
        if (!Modifier.isFinal(Payoutnet.class.getModifiers()) || !Modifier.isPublic(Payoutnet.class.getModifiers())) {
            fault("the class is not public and final");
        }
    }

    private static void constants() throws NoSuchFieldException {
        Field none = Payoutnet.class.getDeclaredField("NONE");
        int asked = Modifier.PUBLIC | Modifier.STATIC | Modifier.FINAL;
        if (none.getModifiers() != asked || none.getType() != int.class || Payoutnet.NONE != -1) {
            fault("NONE is not public static final int, -1");
        }
    }

    /** LANGUAGE.md, rule 11: how many classes, fields and parameters there may be. */
    private static void sizes() {
        List<Class<?>> classes = new ArrayList<>(Arrays.asList(Payoutnet.class.getDeclaredClasses()));
        classes.add(Payoutnet.class);
        if (classes.size() > 12) {
            fault("there are " + classes.size() + " classes");
        }
        for (Class<?> one : classes) {
            int fields = 0;
            for (Field field : one.getDeclaredFields()) {
                fields += Modifier.isStatic(field.getModifiers()) ? 0 : 1;
            }
            if (fields > 20) {
                fault(one.getSimpleName() + " has " + fields + " fields");
            }
            for (Method method : one.getDeclaredMethods()) {
                if (method.getParameterCount() > 7) {
                    fault("too many parameters: " + method);
                }
            }
        }
    }

    private static String textOfTheClass() throws IOException {
        Path file = Path.of(System.getProperty("project.root", "."), "src/main/java/Payoutnet.java");
        return new String(Files.readAllBytes(file), StandardCharsets.UTF_8);
    }

    /** The calls stand in the document's order, ahead of them what the interface says there. */
    private static void sections() throws IOException {
        List<String> sections = new ArrayList<>();
        for (String row : textOfTheClass().split("\n")) {
            Matcher call = CALL.matcher(row);
            int last = sections.size() - 1;
            if (row.startsWith("    // ---- ")) {
                sections.add(row.substring(12) + ":");
            } else if (call.find() && last >= 0) {
                sections.set(last, sections.get(last) + " " + call.group(1));
            }
        }
        // the sections of the private functions have no call
        sections.removeIf(section -> section.endsWith(":"));
        if (!sections.equals(Arrays.asList(SECTIONS))) {
            fault("the sections are " + sections);
        }
    }

    private static void words() throws IOException {
        String text = textOfTheClass();
        int line = 0;
        for (String row : text.split("\n")) {
            line++;
            int comment = row.indexOf("//");
            String code = comment >= 0 ? row.substring(0, comment) : row;
            code = code.strip().startsWith("/*") || code.strip().startsWith("*") ? "" : code;
            for (String word : FORBIDDEN) {
                if (code.contains(word)) {
                    fault("line " + line + " holds " + word);
                }
            }
            if (code.startsWith("import ") && !code.equals("import java.util.Arrays;")) {
                fault("line " + line + " imports another class");
            }
        }
    }

    public static void main(String[] args) throws IOException, NoSuchFieldException {
        members();
        constants();
        sizes();
        sections();
        words();
        System.out.println(wrong == 0 ? "the face is the document's" : wrong + " faults");
        if (wrong != 0) {
            System.exit(1);
        }
    }
}
