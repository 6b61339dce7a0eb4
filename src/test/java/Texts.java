import java.util.ArrayList;
import java.util.List;
import java.util.Random;

/** Texts for the random runs: valid ones, and ones with something wrong. */
final class Texts {
    private static final String[] VARS = {"seen", "want", "next", "wide", "here", "day", "which", "stood", "roads"};
    private static final String[] LAWS = {"stands", "crowds", "keeps", "turns"};
    private static final String[] NAMES = {"a", "b", "north", "abcdefgh", "wide", "c", "ifs", "roadx", "z", "day",
        "goers", "abcdefghi", "x", "y", "q"};
    private final Random random;

    Texts(Random random) {
        this.random = random;
    }

    String valid() {
        return joined(tells());
    }

    private List<String> tells() {
        List<String> tells = new ArrayList<>();
        int roads = random.nextInt(12) == 0 ? 0 : 1 + random.nextInt(6);
        int goers = roads == 0 ? 0 : random.nextInt(6);
        for (int r = 0; r < roads; r++) {
            tells.add("road r" + letter(r) + " " + (1 + random.nextInt(9)) + ";");
        }
        for (int g = 0; g < goers; g++) {
            tells.add("goer g" + letter(g) + " r" + letter(random.nextInt(roads)) + " " + (1 + random.nextInt(6)) + ";");
        }
        int range = random.nextBoolean() ? 100 : 1 + random.nextInt(12);
        int wants = goers == 0 ? 0 : random.nextInt(31);
        for (int w = 0; w < wants; w++) {
            tells.add("wants g" + letter(random.nextInt(goers)) + " r" + letter(random.nextInt(roads)) + " "
                    + random.nextInt(range) + ";");
        }
        for (String law : LAWS) {
            if (random.nextInt(4) > 0) {
                tells.add(random.nextInt(tells.size() + 1), law + "=" + law(law) + ";");
            }
        }
        if (random.nextInt(3) > 0) {
            tells.add(random.nextInt(tells.size() + 1), "seed " + random.nextInt(10000) + ";");
        }
        return tells;
    }

    private String law(String which) {
        if (which.equals("turns") && random.nextBoolean()) {
            return "" + random.nextInt(101);
        }
        StringBuilder out = new StringBuilder();
        int ifs = random.nextInt(5) == 0 ? 4 : random.nextInt(3);
        for (int i = 0; i < ifs; i++) {
            out.append(" if ").append(sum(0)).append("<").append(sum(0)).append(" then ").append(sum(0)).append(" else ");
        }
        return out.append(sum(0)).toString();
    }

    private String sum(int depth) {
        StringBuilder out = new StringBuilder(unit(depth));
        int more = random.nextInt(3);
        for (int i = 0; i < more; i++) {
            out.append("+-*/*-".charAt(random.nextInt(6))).append(unit(depth));
        }
        return out.toString();
    }

    private String unit(int depth) {
        int kind = random.nextInt(10);
        if (kind < 3) {
            return "" + (random.nextInt(8) == 0 ? random.nextInt(10000) : random.nextInt(6));
        }
        if (kind < 9 || depth >= 6) {
            return VARS[random.nextInt(VARS.length)];
        }
        return "(" + sum(depth + 1) + ")";
    }

    private static char letter(int i) {
        return (char) ('a' + i);
    }

    private String joined(List<String> tells) {
        StringBuilder out = new StringBuilder();
        String[] gaps = {"", " ", "\n", "\r\n", "\t"};
        for (String tell : tells) {
            if (out.length() + tell.length() + 2 <= 2000) {
                out.append(tell).append(gaps[random.nextInt(gaps.length)]);
            }
        }
        return out.toString();
    }

    String spoilt() {
        List<String> tells = tells();
        switch (random.nextInt(9)) {
            case 0:
                return deep();
            case 1:
                return longLaw();
            case 2:
                repeat(tells);
                break;
            case 3:
                tells.add(random.nextInt(tells.size() + 1), "road " + name() + " " + random.nextInt(12) + ";");
                break;
            case 4:
                tells.add(random.nextInt(tells.size() + 1), "goer " + name() + " " + name() + " " + random.nextInt(9) + ";");
                break;
            case 5:
                tells.add(random.nextInt(tells.size() + 1), "wants " + name() + " " + name() + " " + random.nextInt(120) + ";");
                break;
            case 6:
                tells.add(random.nextInt(tells.size() + 1), manyIfs());
                break;
            default:
                return mangled(joined(tells));
        }
        String text = joined(tells);
        return random.nextInt(4) == 0 ? mangled(text) : text;
    }

    private String name() {
        if (random.nextInt(3) > 0) {
            return (random.nextBoolean() ? "r" : "g") + letter(random.nextInt(6));
        }
        return NAMES[random.nextInt(NAMES.length)];
    }

    /** One tell of a sort again and again, under the same name or others. */
    private void repeat(List<String> tells) {
        String[] kinds = {"road n%c 3;", "goer n%c ra 2;", "wants ga ra %d;", "seed %d;", "road n 1;"};
        String kind = kinds[random.nextInt(kinds.length)];
        int times = random.nextInt(33);
        for (int i = 0; i < times; i++) {
            tells.add(kind.replace("%c", "" + letter(i % 26)).replace("%d", "" + i));
        }
    }

    private String manyIfs() {
        StringBuilder out = new StringBuilder(LAWS[random.nextInt(4)]).append("=");
        int ifs = 3 + random.nextInt(4);
        for (int i = 0; i < ifs; i++) {
            out.append("if seen<").append(i).append(" then 1 else ");
        }
        return out.append("2;").toString();
    }

    private String deep() {
        int depth = 4 + random.nextInt(5);
        return joined(tells()) + "keeps=" + "(".repeat(depth) + "1" + ")".repeat(depth - (random.nextInt(4) == 0 ? 1 : 0)) + ";";
    }

    /** Near the four hundred tokens that there is room for. */
    private String longLaw() {
        int units = 196 + random.nextInt(6);
        String end = new String[] {";", "", "!", "+;", ";seed 1;"}[random.nextInt(5)];
        return "stands=" + "1+".repeat(units) + "1" + end;
    }

    private String mangled(String text) {
        StringBuilder out = new StringBuilder(text);
        int times = 1 + random.nextInt(2);
        for (int i = 0; i < times && out.length() > 0; i++) {
            int at = random.nextInt(out.length());
            switch (random.nextInt(4)) {
                case 0:
                    out.deleteCharAt(at);
                    break;
                case 1:
                    out.setLength(at);
                    break;
                case 2:
                    out.setCharAt(at, odd());
                    break;
                default:
                    if (out.length() < 2000) {
                        out.insert(at, odd());
                    }
                    break;
            }
        }
        return out.toString();
    }

    private char odd() {
        String odd = "a;=+-*/<() 19\n!A.\u00e9\0{`:";
        return odd.charAt(random.nextInt(odd.length()));
    }
}
