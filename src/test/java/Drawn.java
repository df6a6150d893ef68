import java.util.Random;

/** Texts by draws, right ones and ones with something wrong in them. */
final class Drawn {
    private Drawn() {
    }

    static String blanks(Random r, int often) {
        return often > 0 && r.nextInt(often) == 0 ? " ".repeat(1 + r.nextInt(2)) : "";
    }

    /** A WAR that is right (as long as the TAPE allows). */
    static String war(Random r) {
        for (int tries = 0; tries < 1000; tries++) {
            String text = anyWar(r);
            if (text.length() <= 240 && SlowReader.warFault(text) == -1) {
                return text;
            }
        }
        return "m;ms1";
    }

    private static String anyWar(Random r) {
        StringBuilder all = new StringBuilder();
        int men = 2 + r.nextInt(7);
        int orchards = r.nextInt(7);
        int far = 1 + r.nextInt(20);
        int airy = r.nextInt(3) == 0 ? 6 : 0;
        int wars = r.nextInt(2);
        while (men + orchards + wars > 0) {
            int pick = r.nextInt(men + orchards + wars);
            all.append(all.length() > 0 ? ";" : "").append(blanks(r, airy));
            if (pick < men) {
                men--;
                all.append('m');
                items(all, r, "sdvbni", new int[] {0, 0, 1, 0, 0, 0}, new int[] {1, far, 5, 1, 9, 9}, airy);
            } else if (pick < men + orchards) {
                orchards--;
                all.append('o');
                items(all, r, "kx", new int[] {1, 1}, new int[] {far, 9}, airy);
            } else {
                wars--;
                all.append('w');
                items(all, r, "pg", new int[] {0, 0}, new int[] {9, 1}, airy);
            }
        }
        return all.append(blanks(r, airy)).toString();
    }

    private static void items(StringBuilder all, Random r, String letters, int[] least, int[] most, int airy) {
        int start = r.nextInt(letters.length());
        for (int j = 0; j < letters.length(); j++) {
            int i = (start + j) % letters.length();
            if (r.nextInt(5) < 3 || letters.charAt(i) == 'k') {
                int number = least[i] + r.nextInt(most[i] - least[i] + 1);
                all.append(blanks(r, airy)).append(letters.charAt(i)).append(blanks(r, airy));
                all.append(number < 10 && r.nextInt(20) == 0 ? "0" : "").append(number);
            }
        }
    }

    /** A LAW that is right. */
    static String law(Random r) {
        for (int tries = 0; tries < 1000; tries++) {
            int airy = r.nextInt(3) == 0 ? 6 : 0;
            int left = 1 + r.nextInt(3);
            StringBuilder all = new StringBuilder();
            while (left-- > 0) {
                all.append(blanks(r, airy)).append('y').append(blanks(r, airy)).append(':');
                if (r.nextInt(3) > 0) {
                    condition(all, r, r.nextInt(5), airy);
                    all.append(blanks(r, airy)).append('?');
                }
                sum(all, r, r.nextInt(4), airy);
                all.append(left > 0 ? ";" : "");
            }
            if (all.length() <= 240 && SlowReader.lawFault(all.toString()) == -1) {
                return all.toString();
            }
        }
        return "y:1";
    }

    private static void condition(StringBuilder all, Random r, int deep, int airy) {
        int many = r.nextInt(5) < 3 ? 1 : 2 + r.nextInt(2);
        for (int i = 0; i < many; i++) {
            all.append(blanks(r, airy)).append(i == 0 ? "" : r.nextBoolean() ? "|" : "&").append(blanks(r, airy));
            int kind = deep == 0 ? 2 : r.nextInt(4);
            if (kind == 0) {
                all.append('!');
                unit(all, r, deep - 1, airy);
            } else if (kind == 1) {
                all.append('(');
                condition(all, r, deep - 1, airy);
                all.append(')');
            } else {
                unit(all, r, 0, airy);
            }
        }
    }

    private static void unit(StringBuilder all, Random r, int deep, int airy) {
        if (deep > 0 && r.nextBoolean()) {
            all.append('(');
            condition(all, r, deep - 1, airy);
            all.append(')');
            return;
        }
        sum(all, r, deep / 2, airy);
        all.append(blanks(r, airy)).append("=<>".charAt(r.nextInt(3)));
        sum(all, r, deep / 2, airy);
    }

    private static void sum(StringBuilder all, Random r, int deep, int airy) {
        int many = r.nextInt(5) < 3 ? 1 : 2 + r.nextInt(3);
        for (int i = 0; i < many; i++) {
            all.append(i == 0 ? "" : "+-*/-".substring(r.nextInt(5)).substring(0, 1)).append(blanks(r, airy));
            int kind = r.nextInt(deep > 0 ? 6 : 5);
            if (kind < 3) {
                all.append("dbniys".charAt(r.nextInt(6)));
            } else if (kind < 5) {
                all.append(r.nextInt(4) == 0 ? r.nextInt(10000) : r.nextInt(12));
            } else {
                all.append('[');
                sum(all, r, deep - 1, airy);
                all.append(']');
            }
            all.append(blanks(r, airy));
        }
    }

    /** The text with some signs put, taken or changed. */
    static String spoilt(Random r, String text, String signs) {
        StringBuilder all = new StringBuilder(text);
        for (int n = r.nextInt(3); n >= 0; n--) {
            int at = r.nextInt(all.length() + 1);
            char sign = signs.charAt(r.nextInt(signs.length()));
            int kind = r.nextInt(4);
            if (kind == 0 && at < all.length()) {
                all.deleteCharAt(at);
            } else if (kind == 1 && at < all.length()) {
                all.setCharAt(at, sign);
            } else if (kind == 2) {
                all.setLength(at);
            } else {
                all.insert(at, sign);
            }
        }
        if (all.length() > 240) {
            all.setLength(240);
        }
        return all.toString();
    }
}
