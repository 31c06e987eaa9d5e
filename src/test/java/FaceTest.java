import java.lang.reflect.Constructor;
import java.lang.reflect.Member;
import java.lang.reflect.Method;
import java.lang.reflect.Modifier;
import java.util.TreeSet;

/** The public face: the constructor and the methods of the document, nothing else. */
public final class FaceTest {
    private static final String[] FACE = {
        "int addShade(char,int,int,int)", "int getPart(int,char,int)", "int shadeDistance(int,int)",
        "int addStripe(int,int)", "int clearStripes()", "int makeSett(boolean)", "int getThreads(int)",
        "int countStripes(int)", "int getShade(int,int)", "int getCount(int,int)", "int formShade(int,int)",
        "int formCount(int,int)", "boolean isAlike(int,int)", "int lowestAlike(int)", "int shadeOf(int,int)",
        "int getShare(int,int)", "int meanPart(int,int)", "boolean joins(int,int,int)", "int over(int,int,int)",
        "int scale(int,int,int)", "int getLoss()", "int twillAt(int,int,int)", "int distance(int,int)",
        "int setRuling(int)", "int register(int,char,int,int)", "boolean withdraw(int)",
        "boolean isContested(int)", "int contestedBy(int)", "boolean consent(int,int)", "boolean mayWeave(int,int)",
        "int rightOf(int)", "int pleatShade(int,boolean,int,int,int,int)",
        "boolean isPlain(int,boolean,int,int,int)", "int threadsUsed(int,boolean,int,int)",
        "int order(int,int,int)", "int warpOf(int)", "int left(int)", "int cut()", "int getWaste()",
        "int addCopy(int)", "int miscopy(int,int,int)", "int parentOf(int)", "int depth(int)",
        "boolean fits(int)", "int countFits()", "long checksum()", "float contestedShare()",
        "double meanThreads()", "boolean isSound()"};

    public static void main(String[] args) {
        Due due = new Due();
        TreeSet<String> face = new TreeSet<String>();
        TreeSet<String> hidden = new TreeSet<String>();
        for (Method method : Settbook.class.getDeclaredMethods()) {
            boolean isOpen = isOpen(method);
            (isOpen ? face : hidden).add(isOpen ? told(method) : method.getName());
        }
        TreeSet<String> want = new TreeSet<String>();
        for (String line : FACE) {
            want.add(line);
        }
        due.is("methods", want.toString(), () -> face.toString());
        for (String line : FACE) {
            String name = line.substring(line.indexOf(' ') + 1, line.indexOf('('));
            due.is("private ones named " + name, false, () -> hidden.contains(name));
        }
        int modifiers = Settbook.class.getModifiers();
        due.is("public and final", true, () -> Modifier.isPublic(modifiers) && Modifier.isFinal(modifiers));
        Constructor<?>[] constructors = Settbook.class.getDeclaredConstructors();
        due.is("constructors", 1, () -> constructors.length);
        due.is("constructor", true, () -> isOpen(constructors[0]) && constructors[0].getParameterCount() == 0);
        for (Member field : Settbook.class.getDeclaredFields()) {
            due.is("field " + field.getName() + " is private", false, () -> isOpen(field));
        }
        due.end();
    }

    private static boolean isOpen(Member member) {
        return !Modifier.isPrivate(member.getModifiers()) && !member.isSynthetic();
    }

    private static String told(Method method) {
        StringBuilder text = new StringBuilder(method.getReturnType().getName());
        text.append(' ').append(method.getName()).append('(');
        for (Class<?> type : method.getParameterTypes()) {
            text.append(text.charAt(text.length() - 1) == '(' ? "" : ",").append(type.getName());
        }
        return text.append(')').toString();
    }
}
