import java.util.ArrayList;
import java.util.List;

/** What the tests share: feeding texts, showing code as text, and counting answers that are not due. */
final class Check {
    private static final String[] KINDS = {"COPY", "PLUS", "MINUS", "TIMES", "EQUAL", "LESS", "OUT", "RETURN", "JUMP",
        "ZERO", "CALL", "LINE", "BIND", "LABEL", "ENTER", "LEAVE"};
    private static int wrong;
    private static int checks;

    private Check() {
    }

    static void due(String what, Object got, Object want) {
        checks++;
        if (!got.equals(want)) {
            wrong++;
            if (wrong <= 40) {
                System.out.println(what + "\n  answered " + got + "\n  due is   " + want);
            }
        }
    }

    static int wrongs() {
        return wrong;
    }

    static void finish() {
        System.out.println(checks + " answers looked at, " + wrong + " not as due");
        if (wrong != 0) {
            System.exit(1);
        }
    }

    /** Puts a text on the tape, which must be empty. */
    static void tape(LineKeeper keeper, String text) {
        byte[] bytes = new byte[(text.length() + 19) / 20 * 20];
        for (int i = 0; i < bytes.length; i++) {
            bytes[i] = (byte) (i < text.length() ? text.charAt(i) : ' ');
        }
        for (int i = 0; i < bytes.length; i += 20) {
            keeper.feed(number(bytes, i), number(bytes, i + 4), number(bytes, i + 8), number(bytes, i + 12),
                number(bytes, i + 16));
        }
        keeper.end(text.length());
    }

    private static int number(byte[] bytes, int i) {
        return (bytes[i] & 255) << 24 | (bytes[i + 1] & 255) << 16 | (bytes[i + 2] & 255) << 8 | bytes[i + 3] & 255;
    }

    static LineKeeper keeper(String text) {
        LineKeeper keeper = new LineKeeper();
        tape(keeper, text);
        int got = keeper.read();
        if (got < 0) {
            due("read of " + text + " fault " + keeper.fault(0) + " at " + keeper.fault(1), got, "no fault");
        }
        return keeper;
    }

    static String operand(int kind, int number) {
        return kind == 0 ? "" : kind == 1 ? " " + number : " r" + number;
    }

    static String where(int where, int aKind, int bKind, int a, int b) {
        if (where == 1) {
            return "" + a;
        }
        if (where == 2) {
            return "r" + a;
        }
        if (where >= 10) {
            return "GONE" + (where - 10);
        }
        return KINDS[where - 2] + operand(aKind, a) + operand(bKind, b);
    }

    static String item(LineKeeper x, int r, int k) {
        int kind = x.item(r, k, 0);
        int n = x.item(r, k, 1);
        int m = x.item(r, k, 2);
        String operands = operand(x.item(r, k, 3), x.item(r, k, 5)) + operand(x.item(r, k, 4), x.item(r, k, 6));
        String name = KINDS[kind];
        if (kind <= 5) {
            return name + " r" + n + operands;
        }
        if (kind <= 7) {
            return name + operands;
        }
        switch (kind) {
            case 9: return name + operands + " L" + n;
            case 8:
            case 13: return name + " L" + n;
            case 10: return name + " r" + n + " f" + m + operands;
            case 11: return name + " " + n + " in " + m;
            case 12: return name + " " + m + "." + n + " " + where(x.item(r, k, 7), x.item(r, k, 3), x.item(r, k, 4),
                x.item(r, k, 5), x.item(r, k, 6));
            default: return name + " " + n;
        }
    }

    static List<String> items(LineKeeper x, int r) {
        List<String> list = new ArrayList<>();
        for (int k = 0; k < x.routine(r, 0); k++) {
            list.add(item(x, r, k));
        }
        return list;
    }

    static String told(LineKeeper x, int r, int k, int f, int name) {
        return where(x.told(r, k, f, name, 0), x.told(r, k, f, name, 1), x.told(r, k, f, name, 2),
            x.told(r, k, f, name, 3), x.told(r, k, f, name, 4));
    }

    static List<String> lines(String... lines) {
        return List.of(lines);
    }
}
