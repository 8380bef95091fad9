import java.util.ArrayList;
import java.util.List;
import java.util.regex.Matcher;
import java.util.regex.Pattern;

/** A text read for the model: first into tokens, then by what can stand behind what. */
final class ModelText {
    private static final Pattern TOKEN = Pattern.compile("(?s)([0-9]+)|([a-z])|([,;])|.");

    int fault;
    int place;
    int ports;
    final List<int[]> ways = new ArrayList<>();
    final List<int[]> ships = new ArrayList<>();

    ModelText(String text) {
        // What stands next: p N ; then rounds of w A , B , D ; and of S P ;
        String awaited = "pN;";
        boolean shipSeen = false;
        int[] one = null;
        Matcher m = TOKEN.matcher(text);
        int end = 0;
        while (m.find()) {
            String t = m.group();
            place = m.start();
            end = m.end();
            boolean number = m.group(1) != null && t.length() <= 2;
            boolean token = number || m.group(2) != null || m.group(3) != null;
            if (!token) {
                fault = 1;
                return;
            }
            if (awaited.isEmpty()) {
                boolean way = t.equals("w") && !shipSeen;
                boolean ship = "tcbmg".contains(t);
                if (!way && !ship) {
                    fault = 1;
                    return;
                }
                if (way && ways.size() == 8 || ship && ships.size() == 4) {
                    fault = 3;
                    return;
                }
                shipSeen = ship;
                one = way ? new int[3] : new int[] {t.charAt(0), 0};
                (way ? ways : ships).add(one);
                awaited = way ? "A,B,D;" : "P;";
                continue;
            }
            char next = awaited.charAt(0);
            awaited = awaited.substring(1);
            if (Character.isUpperCase(next) != number || !number && t.charAt(0) != next) {
                fault = 1;
                return;
            }
            if (number && !takes(next, Integer.parseInt(t), one)) {
                fault = 2;
                return;
            }
        }
        if (!awaited.isEmpty()) {
            fault = 1;
            place = end;
        }
    }

    private boolean takes(char what, int v, int[] one) {
        switch (what) {
            case 'N':
                ports = v;
                return v >= 2 && v <= 6;
            case 'A':
                one[0] = v;
                return v < ports;
            case 'B':
                one[1] = v;
                return v < ports && v != one[0];
            case 'D':
                one[2] = v;
                return v >= 1 && v <= 9;
            default:
                one[1] = v;
                return v < ports;
        }
    }
}
