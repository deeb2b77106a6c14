import java.util.Random;
import java.util.regex.Matcher;
import java.util.regex.Pattern;

/** Drawn texts, most of them spoilt in one place, read by NextLoad and by a reader that goes by patterns. */
public final class TextTest {
    private static final Checks CHECKS = new Checks("TextTest");
    private static final Pattern NUMBER = Pattern.compile("0|[1-9][0-9]{0,3}");
    private static final String SIGNS = "0123456789,;/+=-x ";

    public static void main(String[] args) {
        Random random = new Random(7);
        for (int run = 0; run < 4000; run++) {
            NextLoad x = new NextLoad();
            Checks.enter(x, "80,5;20=500/10+1+0;20=500/10+1+0;20=500/10+1+0");
            String text = spoil(draw(random), random);
            if (text.length() <= 240) {
                CHECKS.due("enters() of '" + text + "'", Checks.enter(x, text), new Slow(text).answer());
            }
        }
        CHECKS.end();
    }

    private static String draw(Random r) {
        StringBuilder t = new StringBuilder();
        t.append(1 + r.nextInt(210)).append(',').append(r.nextInt(102));
        for (int lift = 0; lift < 3; lift++) {
            int points = 1 + r.nextInt(7);
            int load = 0;
            int odds = 1000;
            for (int p = 0; p < points; p++) {
                load += r.nextInt(8) + (r.nextInt(20) == 0 ? 0 : 1);
                odds -= r.nextInt(20) == 0 ? -1 : r.nextInt(odds / 3 + 1);
                t.append(p == 0 ? ';' : ',').append(load).append('=').append(odds);
            }
            t.append('/').append(1 + r.nextInt(41)).append('+').append(r.nextInt(40) == 0 ? 0 : 1 + r.nextInt(9));
            t.append('+').append(r.nextInt(10));
        }
        return t.toString();
    }

    private static String spoil(String text, Random r) {
        int at = r.nextInt(text.length());
        char sign = SIGNS.charAt(r.nextInt(SIGNS.length()));
        switch (r.nextInt(5)) {
            case 0: return text.substring(0, at);
            case 1: return text.substring(0, at) + sign + text.substring(at + 1);
            case 2: return text.substring(0, at) + sign + text.substring(at);
            case 3: return text.substring(0, at) + text.substring(at + 1);
            default: return text;
        }
    }

    private static final class Slow {
        private final String text;
        private int at = 0;
        private int bad = -1;

        Slow(String text) {
            this.text = text;
        }

        int answer() {
            number(1, 200);
            sign(",");
            if (number(0, 99) == 5 && bad < 0) {
                bad = at - 1;
            }
            for (int lift = 0; lift < 3; lift++) {
                sign(";");
                int load = number(1, 40);
                sign("=");
                int odds = number(0, 1000);
                int points = 1;
                while (bad < 0 && points < 6 && text.startsWith(",", at)) {
                    at++;
                    load = number(load + 1, 40);
                    sign("=");
                    odds = number(0, odds);
                    points++;
                }
                sign("/");
                number(1, 40);
                sign("+");
                number(1, 9);
                sign("+");
                number(0, 9);
            }
            if (bad < 0 && at < text.length()) {
                bad = at;
            }
            return bad < 0 ? 1 : -21 - bad;
        }

        private void sign(String sign) {
            if (bad < 0 && !text.startsWith(sign, at)) {
                bad = at;
            }
            at++;
        }

        private int number(int low, int high) {
            if (bad >= 0) {
                return 0;
            }
            Matcher m = NUMBER.matcher(text).region(at, text.length());
            if (!m.lookingAt()) {
                bad = at;
                return 0;
            }
            at = m.end();
            int v = Integer.parseInt(m.group());
            if (v < low || v > high) {
                bad = at - 1;
            }
            return v;
        }
    }
}
