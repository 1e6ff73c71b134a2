/** What the tests share: comparing answers, expecting exceptions, and typing texts. */
final class Check {
    private int wrong = 0;

    interface Call {
        void run();
    }

    void is(String what, long got, long want) {
        if (got != want) {
            report(what + " answered " + got + ", due is " + want);
        }
    }

    void is(String what, double got, double want) {
        if (Double.compare(got, want) != 0) {
            report(what + " answered " + got + ", due is " + want);
        }
    }

    void is(String what, String got, String want) {
        if (!got.equals(want)) {
            report(what + " answered " + got + ", due is " + want);
        }
    }

    /** The call throws just this, and leaves everything as it was. */
    void fails(String what, HouseholdMail mail, Class<?> due, Call call) {
        long before = mail.digest();
        Class<?> thrown = null;
        try {
            call.run();
        } catch (RuntimeException e) {
            thrown = e.getClass();
        }
        if (thrown != due) {
            report(what + " threw " + thrown + ", due is " + due);
        }
        if (mail.digest() != before) {
            report(what + " threw, but changed something");
        }
    }

    void report(String line) {
        wrong++;
        System.out.println(line);
    }

    void end() {
        System.out.println(wrong == 0 ? "all answers are as due" : wrong + " answers are not as due");
        if (wrong != 0) {
            System.exit(1);
        }
    }

    static HouseholdMail type(HouseholdMail mail, String text) {
        for (int i = 0; i < text.length(); i++) {
            mail.append(text.charAt(i));
        }
        return mail;
    }

    static int person(HouseholdMail mail, String name, int address, int form) {
        return type(mail, name).addPerson(address, form);
    }

    static int word(HouseholdMail mail, String text) {
        return type(mail, text).addWord();
    }

    static int take(HouseholdMail mail, String text) {
        return type(mail, text).take();
    }

    static String text(HouseholdMail mail, int letter) {
        StringBuilder text = new StringBuilder();
        int length = mail.letter(letter, 3);
        for (int i = 0; i < length; i++) {
            text.append((char) mail.sign(letter, i));
        }
        return text.toString();
    }

    static String name(HouseholdMail mail, int person) {
        StringBuilder text = new StringBuilder();
        int length = mail.person(person, 0);
        for (int i = 0; i < length; i++) {
            text.append((char) mail.name(person, i));
        }
        return text.toString();
    }
}
