import java.util.ArrayList;
import java.util.List;
import java.util.Random;

/** Random texts for all pads: the first wrong place is found here by trying all ways to go on behind each beginning. */
public final class TextsBruteTest {
    private interface Language {
        /** How many terms, clauses, rows the whole text has; -1 if it is no text. */
        int count(String text);
    }

    private interface Reader {
        int read(DigHouse house, String text);
    }

    private static final String[] CLOSINGS = {"", ")", "))", ")))", "))))", ")))))"};

    public static void main(String[] args) {
        texts(new String[] {"a<5", "b=12", "!", "(", ")", "&", "|", ";", "y>0", "z=1", "h>999999", "0", "1", "c", "=", "x", "!!", "(a=1)",
            "!(!b=2&c=3)"}, "!(a=1)&|;<>hyzi059", new String[] {"", "0", "=0", "a=0"}, CLOSINGS, TextsBruteTest::terms,
            TextsBruteTest::readTerms, 80);
        texts(new String[] {"u1*5", "u11*9999", "b3", "x11", "a0:24", "t", "i", ",", ",", ",", "0", "1", "u", "*", "a", ":", "u0*000"},
            "ubxati*:,0129", new String[] {"", "0", "1", "*1", ":0", "1*1", "0:0", "t"}, new String[] {""}, TextsBruteTest::methods,
            TextsBruteTest::readMethod, 50);
        texts(new String[] {"0=500", "4=99999", "g3-10", "g9-100", ",", ",", ",", "g0", "g0000", "=", "-", "1", "0", "5=1", "g5-0"},
            "g-=,0123459", new String[] {"", "0", "1", "=0", "-0", "1-0", "0=0"}, new String[] {""}, TextsBruteTest::rules,
            TextsBruteTest::readRules, 60);
        texts(new String[] {"0:400+10", "11:3000+100", "5:0+1", ";", ";", "0", "1", "2", "3", ":", "+", "10", "300"}, ":+;01239",
            new String[] {"", "0", "1", ":0+1", "+1", "0:0+1", "0+1"}, new String[] {""}, TextsBruteTest::curve, TextsBruteTest::readCurve,
            100);
        texts(new String[] {"s", "m", "a", " r7", " !k3", " f5", " p3", " c7", " g", " !g", " ", "!", "8", "r", "k4", "f6", "\u00e9"},
            "sma !rkfpcg037", new String[] {"", "0", "g", " g", "s"}, new String[] {""}, TextsBruteTest::right, TextsBruteTest::readRight, 40);
        Due.end();
    }

    private static void texts(String[] bits, String signs, String[] ends, String[] closings, Language language, Reader reader, int most) {
        Random random = new Random(bits.length);
        int good = 0;
        for (int i = 0; i < 6000; i++) {
            String text = text(random, bits, signs, most);
            int due = -1;
            for (int length = 1; length <= text.length() && due == -1; length++) {
                if (!mayGoOn(text.substring(0, length), ends, closings, language)) {
                    due = -1 - length;
                }
            }
            due = due == -1 ? -1 - text.length() - 1 : due;
            int count = language.count(text);
            int want = count >= 0 ? count : due + 1;
            good += count >= 0 ? 1 : 0;
            Due.compare(text + " " + want, text + " " + reader.read(new DigHouse(), text));
        }
        Due.compare("true", String.valueOf(good > 100));
    }

    private static String text(Random random, String[] bits, String signs, int most) {
        StringBuilder text = new StringBuilder();
        int count = random.nextInt(random.nextInt(4) == 0 ? 30 : 6);
        for (int i = 0; i < count; i++) {
            text.append(bits[random.nextInt(bits.length)]);
        }
        if (random.nextInt(3) == 0 && text.length() > 0) {
            text.setCharAt(random.nextInt(text.length()), signs.charAt(random.nextInt(signs.length())));
        }
        return text.length() > most ? text.substring(0, most) : text.toString();
    }

    private static boolean mayGoOn(String begin, String[] ends, String[] closings, Language language) {
        for (String end : ends) {
            for (String closing : closings) {
                if (language.count(begin + end + closing) >= 0) {
                    return true;
                }
            }
        }
        return false;
    }

    private static int terms(String text) {
        String[] all = text.split(";", -1);
        for (String term : all) {
            if (!isTerm(term, 0)) {
                return -1;
            }
        }
        return all.length <= 6 ? all.length : -1;
    }

    private static List<String> split(String text, char by) {
        List<String> all = new ArrayList<>();
        int depth = 0;
        int from = 0;
        for (int i = 0; i < text.length(); i++) {
            char c = text.charAt(i);
            depth += c == '(' ? 1 : c == ')' ? -1 : 0;
            if (c == by && depth == 0) {
                all.add(text.substring(from, i));
                from = i + 1;
            }
        }
        all.add(text.substring(from));
        return all;
    }

    private static boolean isTerm(String text, int depth) {
        for (String part : split(text, '|')) {
            for (String bit : split(part, '&')) {
                if (!isBit(bit, depth)) {
                    return false;
                }
            }
        }
        return depth <= 5;
    }

    private static boolean isBit(String bit, int depth) {
        int turns = 0;
        while (turns < bit.length() && bit.charAt(turns) == '!') {
            turns++;
        }
        String rest = bit.substring(turns);
        if (turns > 3) {
            return false;
        }
        if (rest.startsWith("(") && rest.endsWith(")")) {
            return isTerm(rest.substring(1, rest.length() - 1), depth + 1);
        }
        return rest.matches("[a-hyz][<=>][0-9]{1,6}");
    }

    private static int methods(String text) {
        if (text.isEmpty()) {
            return 0;
        }
        String[] all = text.split(",", -1);
        for (String clause : all) {
            boolean good;
            if (clause.matches("u[0-9]{1,4}\\*[0-9]{1,4}")) {
                String[] numbers = clause.substring(1).split("\\*");
                good = Integer.parseInt(numbers[0]) <= 11 && Integer.parseInt(numbers[1]) >= 1;
            } else if (clause.matches("a[0-9]{1,4}:[0-9]{1,4}")) {
                good = Integer.parseInt(clause.substring(1).split(":")[0]) <= 11;
            } else if (clause.matches("b[0-9]{1,4}")) {
                good = Integer.parseInt(clause.substring(1)) <= 9;
            } else if (clause.matches("x[0-9]{1,4}")) {
                good = Integer.parseInt(clause.substring(1)) <= 11;
            } else {
                good = clause.matches("[ti]");
            }
            if (!good) {
                return -1;
            }
        }
        return all.length <= 10 ? 0 : -1;
    }

    private static int rules(String text) {
        if (text.isEmpty()) {
            return 0;
        }
        String[] all = text.split(",", -1);
        for (String clause : all) {
            boolean good = clause.matches("[0-4]=[0-9]{1,5}");
            if (clause.matches("g[0-9]{1,5}-[0-9]{1,5}")) {
                String[] numbers = clause.substring(1).split("-");
                int group = Integer.parseInt(numbers[0]);
                good = group >= 1 && group <= 9 && Integer.parseInt(numbers[1]) <= 100;
            }
            if (!good) {
                return -1;
            }
        }
        return all.length <= 8 ? all.length : -1;
    }

    private static int curve(String text) {
        String[] all = text.split(";", -1);
        for (String row : all) {
            String number = "(0|[1-9][0-9]{0,5})";
            if (!row.matches(number + ":" + number + "\\+" + number)) {
                return -1;
            }
            String[] numbers = row.split("[:+]");
            if (Integer.parseInt(numbers[0]) > 11 || Integer.parseInt(numbers[1]) > 3000 || Integer.parseInt(numbers[2]) > 100
                    || Integer.parseInt(numbers[2]) < 1) {
                return -1;
            }
        }
        return all.length;
    }

    private static int right(String text) {
        return text.matches("[sma]( !?(r[0-7]|k[0-3]|f[0-5]|p[0-3]|c[0-7]|g))*") ? 0 : -1;
    }

    private static int readTerms(DigHouse house, String text) {
        for (char c : text.toCharArray()) {
            house.termUnit(c);
        }
        int answer = house.termRead();
        return answer < 0 ? answer : house.termMany(0);
    }

    private static int readMethod(DigHouse house, String text) {
        for (char c : text.toCharArray()) {
            house.methodUnit(c);
        }
        return house.methodRead();
    }

    private static int readRules(DigHouse house, String text) {
        for (char c : text.toCharArray()) {
            house.ticketUnit(c);
        }
        return house.ticketRules();
    }

    private static int readCurve(DigHouse house, String text) {
        for (char c : text.toCharArray()) {
            house.curveUnit(c, 0);
        }
        return house.curveRead();
    }

    private static int readRight(DigHouse house, String text) {
        for (char c : text.toCharArray()) {
            house.rightUnit(c, 0, 0, 0);
        }
        return house.rightRule();
    }
}
