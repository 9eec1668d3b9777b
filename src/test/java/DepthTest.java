import java.io.File;
import java.io.PrintWriter;
import java.io.StringWriter;
import java.util.ArrayList;
import java.util.HashMap;
import java.util.HashSet;
import java.util.List;
import java.util.Map;
import java.util.Optional;
import java.util.Set;
import java.util.regex.Matcher;
import java.util.regex.Pattern;
import java.util.spi.ToolProvider;

/** Rule 11 of LANGUAGE.md: calls that are no recursion go at most eight deep. Read off the compiled class. */
public final class DepthTest {
    private static final int DEEPEST = 8;
    private static final Pattern CLASS = Pattern.compile("^[a-z ]*class ([\\w$]+)");
    private static final Pattern METHOD = Pattern.compile("^  [^ ].*?([\\w$]+)\\(.*\\);$");
    private static final Pattern CALL = Pattern.compile("invoke\\w+ .*// Method ([\\w$]+\\.)?\"?([\\w<>]+)\"?:");

    private final Map<String, Set<String>> callees = new HashMap<>();

    private static String disassembled(ToolProvider javap) throws Exception {
        File folder = new File(OrderAlgebra.class.getProtectionDomain().getCodeSource().getLocation().toURI());
        List<String> asked = new ArrayList<>(List.of("-p", "-c"));
        for (File file : folder.listFiles((in, name) -> name.matches("OrderAlgebra(\\$\\w+)?\\.class"))) {
            asked.add(file.getPath());
        }
        StringWriter text = new StringWriter();
        PrintWriter out = new PrintWriter(text);
        javap.run(out, out, asked.toArray(new String[0]));
        return text.toString();
    }

    private void read(String text) {
        String inClass = "";
        String caller = "";
        for (String line : text.split("\n")) {
            Matcher ofClass = CLASS.matcher(line);
            Matcher ofMethod = METHOD.matcher(line);
            Matcher ofCall = CALL.matcher(line);
            if (ofClass.find()) {
                inClass = ofClass.group(1);
            } else if (ofMethod.find()) {
                boolean constructor = ofMethod.group(1).equals(inClass);
                caller = inClass + "." + (constructor ? "<init>" : ofMethod.group(1));
                callees.putIfAbsent(caller, new HashSet<>());
            } else if (ofCall.find()) {
                String owner = ofCall.group(1) == null ? inClass + "." : ofCall.group(1);
                callees.get(caller).add(owner + ofCall.group(2));
            }
        }
    }

    /** The longest row of calls from a method on, none of them twice. */
    private List<String> longest(String method, Set<String> open) {
        List<String> best = List.of();
        for (String callee : callees.get(method)) {
            if (callees.containsKey(callee) && open.add(callee)) {
                List<String> row = longest(callee, open);
                best = row.size() > best.size() ? row : best;
                open.remove(callee);
            }
        }
        List<String> whole = new ArrayList<>(List.of(method));
        whole.addAll(best);
        return whole;
    }

    public static void main(String[] args) throws Exception {
        Optional<ToolProvider> javap = ToolProvider.findFirst("javap");
        if (javap.isEmpty()) {
            System.out.println("no javap here: the depth of calls was not looked at");
            return;
        }
        DepthTest test = new DepthTest();
        test.read(disassembled(javap.get()));
        int wrong = test.callees.size() > 100 ? 0 : 1;
        for (String method : test.callees.keySet()) {
            List<String> row = test.longest(method, new HashSet<>(Set.of(method)));
            if (row.size() > DEEPEST) {
                wrong++;
                System.out.println(row.size() + " deep: " + String.join(" > ", row));
            }
        }
        System.out.println(wrong == 0 ? "no call goes too deep" : wrong + " rows of calls are not as bound");
        if (wrong != 0) {
            System.exit(1);
        }
    }
}
