import java.util.Random;

/** Runs of up to 512 calls, the same ones each time, with the answers compared with the model's. */
public final class RandomRunsTest {
    private static final int RUNS = 400;
    private static final int CALLS = 512;
    private static final String LETTER_SIGNS = "abcdefghijklmnopqrstuvwxyz____,.//|<<<>>{}{}ngwcngwc";

    private final Check check;
    private final Random random;
    private final int run;
    private final StringBuilder told = new StringBuilder();
    private HouseholdMail mail = new HouseholdMail();
    private Model model = new Model();
    private int calls = 0;
    private boolean ended = false;

    private RandomRunsTest(Check check, int run) {
        this.check = check;
        this.run = run;
        random = new Random(run);
    }

    public static void main(String[] args) {
        Check check = new Check();
        for (int run = 0; run < RUNS; run++) {
            new RandomRunsTest(check, run).play();
        }
        check.end();
    }

    private interface Answer {
        long get();
    }

    private static String answerOf(Answer answer) {
        try {
            return "" + answer.get();
        } catch (RuntimeException e) {
            return "throws " + e.getClass().getSimpleName();
        }
    }

    private void both(String name, Answer here, Answer there) {
        if (ended || calls >= CALLS) {
            ended = true;
            return;
        }
        calls++;
        String got = answerOf(here);
        String want = answerOf(there);
        told.append(name).append(' ').append(got).append("; ");
        if (!got.equals(want)) {
            ended = true;
            check.report("run " + run + ": " + told + "due is " + want);
        }
    }

    private int upTo(int most) {
        return random.nextInt(most + 1);
    }

    /** Mostly in the range, now and then just beyond it or far away. */
    private int about(int least, int most) {
        int die = upTo(29);
        if (die == 0) {
            return least - 1;
        }
        if (die == 1) {
            return most + 1;
        }
        if (die == 2) {
            return upTo(1) == 0 ? Integer.MAX_VALUE : Integer.MIN_VALUE;
        }
        return most < least ? least : least + upTo(most - least);
    }

    private void play() {
        while (!ended) {
            int die = upTo(99);
            if (die < 22) {
                change();
            } else if (die < 40) {
                addText();
            } else if (die < 50) {
                both("undo()", mail::undo, model::undo);
            } else {
                ask();
            }
            if (upTo(3) == 0) {
                both("digest()", mail::digest, model::digest);
            }
        }
    }

    private void append(String text) {
        for (int i = 0; i < text.length(); i++) {
            int code = text.charAt(i);
            both("append(" + code + ")", () -> mail.append(code), () -> model.append(code));
        }
    }

    private String letters(int most) {
        StringBuilder text = new StringBuilder();
        for (int left = 1 + upTo(most - 1); left > 0; left--) {
            text.append((char) ('a' + upTo(25)));
        }
        return text.toString();
    }

    private void addText() {
        if (upTo(2) > 0) {
            both("clearBuffer()", mail::clearBuffer, model::clearBuffer);
        }
        int die = upTo(19);
        if (die < 8) {
            append(letters(upTo(9) == 0 ? 10 : 8 - upTo(6)));
            int address = upTo(2) > 0 ? upTo(3) : about(0, 19);
            int form = upTo(1) > 0 ? upTo(1) : about(0, 2);
            both("addPerson(" + address + ", " + form + ")",
                () -> mail.addPerson(address, form), () -> model.addPerson(address, form));
        } else if (die < 12) {
            append(letters(upTo(9) == 0 ? 10 : 8) + (upTo(2) == 0 ? "*" : ""));
            both("addWord()", mail::addWord, model::addWord);
        } else if (die < 19) {
            append(letterText());
            both("take()", mail::take, model::take);
        } else {
            append("" + (char) (33 + upTo(93)));
            int code = about(33, 126);
            both("append(" + code + ")", () -> mail.append(code), () -> model.append(code));
        }
        int kind = about(0, 2);
        both("firstError(" + kind + ")", () -> mail.firstError(kind), () -> model.firstError(kind));
    }

    private String letterText() {
        StringBuilder text = new StringBuilder();
        boolean joint = false;
        for (int left = 1 + upTo(upTo(3) == 0 ? 24 : 9); left > 0; left--) {
            int die = upTo(19);
            if (die < 6) {
                text.append('<').append("ngwcn".charAt(upTo(4))).append('>');
            } else if (die < 8) {
                text.append(joint ? "a}" : "{_");
                joint = !joint;
            } else if (die < 12) {
                text.append("__/|".charAt(upTo(3)));
            } else {
                text.append(letters(4));
            }
        }
        if (joint) {
            text.append('}');
        }
        if (upTo(5) == 0) {
            text.setCharAt(upTo(text.length() - 1), LETTER_SIGNS.charAt(upTo(LETTER_SIGNS.length() - 1)));
        }
        return text.toString();
    }

    private void change() {
        int person = about(0, model.count(0) - 1);
        int die = upTo(19);
        if (die < 3) {
            int address = about(0, upTo(1) == 0 ? 2 : 19);
            both("move(" + person + ", " + address + ")",
                () -> mail.move(person, address), () -> model.move(person, address));
        } else if (die < 9) {
            int word = about(-1, model.count(1) - 1);
            both("give(" + person + ", " + word + ")",
                () -> mail.give(person, word), () -> model.give(person, word));
        } else if (die < 11) {
            boolean is = upTo(2) == 0;
            both("unsubscribe(" + person + ", " + is + ")",
                () -> mail.unsubscribe(person, is), () -> model.unsubscribe(person, is));
        } else if (die < 15) {
            int setting = about(0, 5);
            int value = valueFor(setting);
            both("set(" + setting + ", " + value + ")",
                () -> mail.set(setting, value), () -> model.set(setting, value));
        } else if (die < 18) {
            both("send()", mail::send, model::send);
        } else {
            int days = about(1, upTo(2) > 0 ? 6 : 100);
            both("pass(" + days + ")", () -> mail.pass(days), () -> model.pass(days));
        }
    }

    private int valueFor(int setting) {
        int[] most = {40, 20, 6, 30, 9, 20};
        return setting < 0 || setting > 5 ? upTo(9) : about(setting == 0 ? 5 : setting == 3 ? 0 : 1, most[setting]);
    }

    private void ask() {
        int person = about(0, model.count(0) - 1);
        int letter = about(0, model.count(4) - 1);
        switch (upTo(11)) {
            case 0: {
                int what = about(0, 8);
                both("person(" + person + ", " + what + ")",
                    () -> mail.person(person, what), () -> model.person(person, what));
                break;
            }
            case 1: {
                int place = about(0, 7);
                both("name(" + person + ", " + place + ")",
                    () -> mail.name(person, place), () -> model.name(person, place));
                break;
            }
            case 2: {
                int word = about(0, model.count(1) - 1);
                int what = about(0, 17);
                both("word(" + word + ", " + what + ")",
                    () -> mail.word(word, what), () -> model.word(word, what));
                break;
            }
            case 3: {
                int what = about(0, 7);
                both("letter(" + letter + ", " + what + ")",
                    () -> mail.letter(letter, what), () -> model.letter(letter, what));
                break;
            }
            case 4: {
                int place = about(0, 40);
                both("sign(" + letter + ", " + place + ")",
                    () -> mail.sign(letter, place), () -> model.sign(letter, place));
                break;
            }
            case 5:
                both("members(" + letter + ")", () -> mail.members(letter), () -> model.members(letter));
                break;
            case 6: {
                int what = about(0, 14);
                both("count(" + what + ")", () -> mail.count(what), () -> model.count(what));
                break;
            }
            case 7: {
                int setting = about(0, 5);
                both("setting(" + setting + ")", () -> mail.setting(setting), () -> model.setting(setting));
                break;
            }
            case 8: {
                int setting = about(0, 5);
                int value = valueFor(setting);
                int what = about(0, 3);
                both("ifSet(" + setting + ", " + value + ", " + what + ")",
                    () -> mail.ifSet(setting, value, what), () -> model.ifSet(setting, value, what));
                break;
            }
            case 9:
                both("bestJoin()", mail::bestJoin, model::bestJoin);
                both("narrowest()", mail::narrowest, model::narrowest);
                break;
            case 10:
                both("readyIn(" + person + ")", () -> mail.readyIn(person), () -> model.readyIn(person));
                break;
            default:
                both("share()", () -> Double.doubleToLongBits(mail.share()),
                    () -> Double.doubleToLongBits(model.share()));
                break;
        }
    }
}
