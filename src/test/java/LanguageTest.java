import java.lang.reflect.Field;
import java.lang.reflect.Method;
import java.lang.reflect.Modifier;
import java.nio.file.Files;
import java.nio.file.Path;
import java.util.ArrayList;
import java.util.Arrays;
import java.util.HashMap;
import java.util.HashSet;
import java.util.List;
import java.util.Map;
import java.util.Set;
import java.util.TreeSet;
import java.util.regex.Matcher;
import java.util.regex.Pattern;

/** The public face, and what of LANGUAGE.md can be seen by a look at the source and the classes. */
public final class LanguageTest {
    private static final String[] FACE = {
        "boolean good(int,int,int)", "int house(int,int,int,int,int)", "int farm(int,int)", "int die(int)", "int hear(int)",
        "int mouths(int,int,int)", "int feed(int,int,int,int,int)", "int orders(int,int)", "int fault()", "int rule(int,int,int)",
        "int card(int,int,int,int)", "int quota(int,int,int,int)", "int crop(int,int,int)", "int deliver(int,int)",
        "long buy(int,int,int,boolean)", "int deal(int,int,int,int)", "int parcel(int,int,int)", "int seize(int)", "int pass(int)",
        "int lotOf(int,int)", "int led(int,int)", "long coins(int)", "long houseOf(int,int)", "int lack(int,int)",
        "int fake(int,int,int,int)", "int dead(int,int,int)", "int shortOf(int,int,int,int)", "boolean field(int,int,int,int)",
        "int elsewhere(int,int,int,int,int)", "boolean exchange(int,int,int,int)", "int round(int,int)", "boolean road(int,int,int)",
        "int post(int,int,int,int)", "int way(int,int,int,int)", "int plan(int,int,int,int)", "int judge(int,int,int,int,int)",
        "int count(int)"};
    private static final String[] REFUSED = {"\\bthrow\\b", "\\bthrows\\b", "\\btry\\b", "\\bcatch\\b", "\\bfinally\\b",
        "\\bsynchronized\\b", "\\bassert\\b", "\\bprotected\\b", "->", "::", "@", "Exact\\s*\\(", "\\bThread\\b", "\\bSystem\\.(?!arraycopy)",
        "\\bRandom\\b", "\\bgetClass\\b", "\\bhashCode\\b", "\\btoString\\b", "\\bObject\\b", "static\\s*\\{", "\\bString\\s*\\[",
        "\\bvolatile\\b", "\\btransient\\b", "\\bnative\\b", "Arrays\\.(?!copyOf|copyOfRange|fill)\\w+"};

    public static void main(String[] args) throws Exception {
        face();
        classes();
        types();
        calls();
        source(Files.readString(Path.of(System.getProperty("hungerbooks.source", "src/main/java/HungerBooks.java"))));
        Due.end("LanguageTest");
    }

    private static void yes(String what, boolean is) {
        Due.due(what, is, true);
    }

    private static void face() throws Exception {
        Set<String> want = new TreeSet<>(Arrays.asList(FACE));
        Set<String> got = new TreeSet<>();
        Set<String> names = new TreeSet<>();
        for (Method m : HungerBooks.class.getDeclaredMethods()) {
            if (Modifier.isPrivate(m.getModifiers())) continue;
            yes(m + " is public", Modifier.isPublic(m.getModifiers()));
            List<String> types = new ArrayList<>();
            for (Class<?> t : m.getParameterTypes()) types.add(t.getName());
            got.add(m.getReturnType().getName() + " " + m.getName() + "(" + String.join(",", types) + ")");
            names.add(m.getName());
        }
        yes("the methods are the document's: " + got, got.equals(want));
        yes("the class is public and final", Modifier.isPublic(HungerBooks.class.getModifiers())
            && Modifier.isFinal(HungerBooks.class.getModifiers()));
        Due.due("constructors", HungerBooks.class.getDeclaredConstructors().length, 1);
        yes("the constructor is public", Modifier.isPublic(HungerBooks.class.getConstructor().getModifiers()));
        for (Field f : HungerBooks.class.getDeclaredFields()) {
            yes(f + " is private or NONE", Modifier.isPrivate(f.getModifiers()) || f.getName().equals("NONE"));
        }
        for (Class<?> c : all()) {
            for (Method m : c.getDeclaredMethods()) {
                boolean isFace = c == HungerBooks.class && Modifier.isPublic(m.getModifiers());
                yes(m + " bears no public one's name", isFace || !names.contains(m.getName()));
            }
        }
    }

    private static List<Class<?>> all() {
        List<Class<?>> all = new ArrayList<>();
        all.add(HungerBooks.class);
        all.addAll(Arrays.asList(HungerBooks.class.getDeclaredClasses()));
        return all;
    }

    private static void classes() {
        yes("at most twelve classes", all().size() <= 12);
        for (Class<?> c : all()) {
            yes(c + " is static or the class itself", c == HungerBooks.class || Modifier.isStatic(c.getModifiers()));
            yes(c + " is not public", c == HungerBooks.class || !Modifier.isPublic(c.getModifiers()));
            Due.due("classes inside " + c, c == HungerBooks.class ? 0 : c.getDeclaredClasses().length, 0);
            int fields = 0;
            for (Field f : c.getDeclaredFields()) {
                boolean isStatic = Modifier.isStatic(f.getModifiers());
                yes(f + " is final", !isStatic || Modifier.isFinal(f.getModifiers()));
                fields += isStatic ? 0 : 1;
            }
            yes(c + " has at most twenty fields", fields <= 20);
            for (Method m : c.getDeclaredMethods()) {
                yes(m + " takes at most seven", m.getParameterCount() <= 7);
                yes(m + " is written, not made", !m.isSynthetic());
            }
        }
    }

    private static final Set<Class<?>> PLAIN = Set.of(int.class, long.class, short.class, byte.class, char.class, boolean.class,
        double.class, float.class);
    private static final Set<Class<?>> CONSTANT = Set.of(int.class, long.class, boolean.class, char.class, String.class, int[].class,
        long[].class, char[].class, byte[].class);
    private static final Set<String> LIBRARY = Set.of("java/lang/Object.<init>()V", "java/lang/Math.max(II)I", "java/lang/Math.max(JJ)J",
        "java/lang/Math.min(II)I", "java/lang/Math.min(JJ)J", "java/lang/String.charAt(I)C", "java/lang/String.indexOf(I)I",
        "java/util/Arrays.fill([II)V", "java/util/Arrays.fill([JJ)V", "java/util/Arrays.copyOf([II)[I", "[I.clone()Ljava/lang/Object;",
        "java/lang/System.arraycopy(Ljava/lang/Object;ILjava/lang/Object;II)V");
    private static final int MOST_DEEP = 8;

    private static void types() {
        for (Class<?> c : all()) {
            for (Field f : c.getDeclaredFields()) {
                boolean isStatic = Modifier.isStatic(f.getModifiers());
                yes(f + " is of a type that may be", isStatic ? CONSTANT.contains(f.getType()) : isAllowed(f.getType()));
            }
            for (Method m : c.getDeclaredMethods()) {
                yes(m + " answers a type that may be", m.getReturnType() == void.class || isAllowed(m.getReturnType()));
                for (Class<?> p : m.getParameterTypes()) yes(m + " takes types that may be", isAllowed(p));
            }
        }
    }

    private static boolean isAllowed(Class<?> type) {
        Class<?> one = type.isArray() ? type.getComponentType() : type;
        return PLAIN.contains(one) || all().contains(one) || type == String.class || type.isArray() && one.isArray()
            && PLAIN.contains(one.getComponentType());
    }

    /** Rules 4, 6, 8 and 11 by the bytecode: the library's part, no throwing, how deep calls go. */
    private static void calls() throws Exception {
        Map<String, Set<String>> graph = new HashMap<>();
        for (Class<?> c : all()) {
            ClassFile file = new ClassFile(c);
            graph.putAll(file.calls);
            for (String refused : file.refused) yes(refused, false);
        }
        for (String caller : graph.keySet()) {
            for (String called : graph.get(caller)) yes(caller + " calls " + called, graph.containsKey(called) || LIBRARY.contains(called));
        }
        Map<String, Set<String>> reached = new HashMap<>();
        for (String method : graph.keySet()) reached.put(method, reachedFrom(method, graph));
        Map<String, Integer> depths = new HashMap<>();
        int deepest = 0;
        for (String method : graph.keySet()) {
            deepest = Math.max(deepest, depthOf(method, graph, reached, depths));
            boolean recurs = reached.get(method).contains(method);
            yes(method + " may call itself", !recurs || method.startsWith("HungerBooks$Reader."));
        }
        yes("calls go " + deepest + " deep", deepest <= MOST_DEEP);
    }

    private static Set<String> reachedFrom(String start, Map<String, Set<String>> graph) {
        Set<String> reached = new HashSet<>();
        List<String> work = new ArrayList<>(graph.get(start));
        while (!work.isEmpty()) {
            String method = work.remove(work.size() - 1);
            if (graph.containsKey(method) && reached.add(method)) work.addAll(graph.get(method));
        }
        return reached;
    }

    /** Methods that call one another count as one. */
    private static int depthOf(String method, Map<String, Set<String>> graph, Map<String, Set<String>> reached, Map<String, Integer> depths) {
        if (depths.containsKey(method)) return depths.get(method);
        Set<String> group = new HashSet<>();
        group.add(method);
        for (String other : reached.get(method)) {
            if (reached.get(other).contains(method)) group.add(other);
        }
        int below = 0;
        for (String member : group) {
            for (String called : graph.get(member)) {
                if (graph.containsKey(called) && !group.contains(called)) {
                    below = Math.max(below, depthOf(called, graph, reached, depths));
                }
            }
        }
        depths.put(method, below + 1);
        return below + 1;
    }

    private static void source(String text) {
        for (int k = 0; k < text.length(); k++) yes("sign " + k + " is plain", text.charAt(k) < 128);
        String code = text.replaceAll("(?s)/\\*.*?\\*/", "").replaceAll("//[^\n]*", "");
        String bare = code.replaceAll("'[^']*'", "' '").replaceAll("\"[^\"\n]*\"", "\"\"");
        for (String refused : REFUSED) {
            Matcher m = Pattern.compile(refused).matcher(bare);
            yes("no " + refused, !m.find());
        }
        yes("no joining of texts", !Pattern.compile("\"\\s*\\+|\\+\\s*\"").matcher(bare).find());
        Matcher imports = Pattern.compile("import\\s+([\\w.]+);").matcher(code);
        while (imports.find()) {
            yes("import of " + imports.group(1), List.of("java.util.Arrays", "java.util.ArrayList", "java.util.List").contains(imports.group(1)));
        }
        methodsAreShort(text);
    }

    private static void methodsAreShort(String text) {
        String[] lines = text.split("\n");
        for (int k = 0; k < lines.length; k++) {
            boolean isHead = lines[k].matches("\\s+[\\w\\[\\] ]+\\(.*\\) \\{") && !lines[k].matches("\\s+(if|for|while|switch|else|do)\\b.*");
            if (!isHead) continue;
            String close = lines[k].replaceAll("\\S.*", "") + "}";
            int end = k;
            while (end < lines.length && !lines[end].equals(close)) end++;
            yes("the method in line " + (k + 1) + " is short", end - k < 60);
        }
    }
}
