import java.util.Random;

/** Texts for laws: mostly right ones, some with a sign put wrong or cut off. */
final class Texts {
    private static final String SIGNS = "wcpntki0123456789()!-+*/%<=>&|?; x\u00e9";

    private final Random random;
    private final StringBuilder text = new StringBuilder();

    private Texts(Random random) {
        this.random = random;
    }

    static String made(Random random) {
        Texts t = new Texts(random);
        int lines = 1 + random.nextInt(3);
        for (int i = 0; i < lines; i++) {
            if (i > 0) {
                t.text.append(';');
            }
            t.any(0, 6);
            if (random.nextInt(2) == 0) {
                t.text.append('?');
                t.any(0, 6);
            }
        }
        if (random.nextInt(4) == 0) {
            t.spoil();
        }
        return t.text.substring(0, Math.min(t.text.length(), 120));
    }

    private void spoil() {
        int at = random.nextInt(text.length());
        char sign = SIGNS.charAt(random.nextInt(SIGNS.length()));
        switch (random.nextInt(4)) {
            case 0 -> text.setCharAt(at, sign);
            case 1 -> text.insert(at, sign);
            case 2 -> text.deleteCharAt(at);
            default -> text.setLength(at);
        }
    }

    private void any(int open, int left) {
        one(open, left);
        String joints = "|&+-*/%<=>";
        boolean compared = false;
        while (left > 0 && random.nextInt(3) != 0) {
            left -= 2;
            char joint = joints.charAt(random.nextInt(joints.length()));
            boolean compares = "<=>".indexOf(joint) >= 0;
            if (compares && compared && random.nextInt(30) != 0) {
                joint = '&';
            }
            compared = compares || (compared && "|&".indexOf(joint) < 0);
            text.append(joint);
            one(open, left);
        }
    }

    private void one(int open, int left) {
        int kind = random.nextInt(open < 6 ? 9 : random.nextInt(10) == 0 ? 9 : 6);
        if (kind < 3) {
            text.append(random.nextInt(random.nextBoolean() ? 10 : 10000));
        } else if (kind < 6) {
            text.append("wcpntki".charAt(random.nextInt(7)));
        } else if (kind < 7) {
            text.append('(');
            any(open + 1, left - 1);
            text.append(')');
        } else {
            text.append(kind < 8 ? '!' : '-');
            one(open + 1, left);
        }
    }
}
