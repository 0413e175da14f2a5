/** The edges of THE LAW's text, as promises 16 and 17 show them: what is a law, and where a FAULT is. */
final class EdgesOfTexts {
    private static final int NONE = DredgePond.NONE;
    private static final String[] WORDS = {"bank", "clear", "back", "royalty", "fine"};
    private static final int[] TERMS = {2, 3, 4, 5, 6};

    private final Edge edge;

    EdgesOfTexts(Edge edge) {
        this.edge = edge;
    }

    void all() {
        statements();
        numbers();
        blanks();
        twelveStatements();
        tokens();
        firstToken();
        moreMustCome();
        thirteenth();
    }

    private void law(String text) {
        DredgePond x = new DredgePond(2, 2);
        edge.due("'" + text + "'", Check.law(x, text), 0);
        edge.due("'" + text + "' has no FAULT", x.fault(), NONE);
    }

    private void fault(String text, int place) {
        DredgePond x = new DredgePond(2, 2);
        edge.due("'" + text + "'", Check.law(x, text), NONE);
        edge.due("'" + text + "' FAULT", x.fault(), place);
    }

    private void statements() {
        edge.sentence(16, "THE LAW is a text: {\"level\" NUMBER \"to\" NUMBER \";\" | \"bank\" NUMBER \";\" | \"clear\""
            + " NUMBER \";\" | \"back\" NUMBER \";\" | \"royalty\" NUMBER \";\" | \"fine\" NUMBER \";\"}.");
        law("");
        law(" ");
        law("level 1 to 2;");
        fault("level 1;", 7);
        fault("level 1 2;", 8);
        fault("level to 2;", 6);
        fault("level 1 to;", 10);
        fault("level 1 to 2", 12);
        fault("level 1 to 2 to 3;", 13);
        fault("to 2;", 0);
        for (int i = 0; i < WORDS.length; i++) {
            String word = WORDS[i];
            int number = word.length() + 1;
            law(word + " 1;");
            law("level 1 to 2;" + word + " 1;");
            fault(word + " 1", number + 1);
            fault(word + ";", word.length());
            fault(word + " 1 to 2;", number + 2);
            fault(word + " 1;;", number + 2);
            fault(word + " " + word + ";", number);
            fault(word + "s 1;", 0);
            fault(word.substring(1) + " 1;", 0);
            fault(word.substring(0, word.length() - 1) + " 1;", 0);
            fault(word.substring(0, word.length() - 1) + "z 1;", 0);
            fault("z" + word.substring(1) + " 1;", 0);
        }
        fault("levels 1 to 2;", 0);
        fault("leve 1 to 2;", 0);
        fault("evel 1 to 2;", 0);
        fault("level 1 t 2;", 8);
        fault("level 1 too 2;", 8);
        fault("level 1 so 2;", 8);
        fault("level 1 ta 2;", 8);
        fault("bank 1; ;", 8);
        fault("bank 1; 2;", 8);
        fault(";", 0);
        fault("1", 0);
    }

    private void numbers() {
        edge.sentence(16, "NUMBER: one to four digits.");
        String[] taken = {"0", "9", "00", "0000", "0009", "99", "999", "1000", "9999"};
        int[] value = {0, 9, 0, 0, 9, 99, 999, 1000, 9999};
        for (int i = 0; i < taken.length; i++) {
            for (int j = 0; j < WORDS.length; j++) {
                DredgePond x = new DredgePond(2, 2);
                edge.due(WORDS[j] + " " + taken[i], Check.law(x, WORDS[j] + " " + taken[i] + ";"), 0);
                edge.due(WORDS[j] + " " + taken[i], x.tells(0, TERMS[j]), value[i]);
            }
            DredgePond x = new DredgePond(2, 2);
            Check.law(x, "level " + taken[i] + " to 7;");
            Check.law(x, "level " + taken[i] + " to " + taken[i] + ";");
            edge.due("level " + taken[i], x.tells(0, 0), value[i]);
            edge.due("level to " + taken[i], x.tells(0, 1), value[i]);
        }
        String tooLong = "1".repeat(60);
        for (String refused : new String[] {";", "00000;", "00001;", "10000;", "99999;", "4294967296;", tooLong}) {
            fault("fine " + refused, 5);
            fault("level " + refused, 6);
            fault("level 1 to " + refused, 11);
        }
        fault("fine 1 2;", 7);
        fault("fine -1;", 5);
        fault("fine +1;", 5);
        fault("fine 1.5;", 6);
        fault("fine x1;", 5);
    }

    private void blanks() {
        edge.sentence(16, "between them blanks (bytes 32 and 10).");
        law("  \n fine \n  1\n;\n\n");
        law("fine 1;bank 2;");
        law("fine1;bank2;level3to4;");
        law("\n");
        for (char other : new char[] {0, 9, 11, 12, 13, 31, 33, 127, 128, 160, 255}) {
            fault("fine 1;" + other, 7);
            fault(other + "fine 1;", 0);
            fault("fine" + other + "1;", 4);
            fault("fine 1" + other + ";", 6);
            fault("" + other, 0);
        }
        fault("fi ne 1;", 0);
        fault("fine 1 1;", 7);
        fault("fine 1\n1;", 7);
        fault("le vel 1 to 2;", 0);
        fault("level 1 t o 2;", 8);
    }

    private void twelveStatements() {
        edge.sentence(16, "At most 12 statements.");
        for (String one : new String[] {"fine 1;", "level 1 to 2;", "royalty 9999;\n"}) {
            law(one.repeat(11));
            law(one.repeat(12));
            law(one.repeat(12) + " \n ");
            fault(one.repeat(13), 12 * one.length());
            fault(one.repeat(20), 12 * one.length());
        }
        DredgePond x = new DredgePond(2, 2);
        Check.law(x, "fine 1;".repeat(11) + "fine 12;");
        edge.due("the 12th holds", x.tells(0, 6), 12);
        edge.due("a 13th: no LAW", Check.law(x, "fine 1;".repeat(12) + "fine 13;"), NONE);
        edge.due("a 13th: the LAW ahead stays", x.tells(0, 6), 12);
    }

    private void tokens() {
        edge.sentence(17, "Tokens as long as they go: words of letters a to z, digits, \";\";");
        // the bytes just outside of a to z, 0 to 9 and ";" begin no token and end one
        for (char outside : new char[] {'`', '{', '/', ':', '<', 'A', 'Z', '@', '['}) {
            fault("" + outside, 0);
            fault("fine 1;" + outside, 7);
            fault("fine" + outside + " 1;", 4);
            fault("fine 1" + outside + ";", 6);
            fault("fine " + outside + "1;", 5);
        }
        fault("Fine 1;", 0);
        fault("finE 1;", 0);
        // words of other letters, to both ends of a to z, are one token
        fault("finea 1;", 0);
        fault("finez 1;", 0);
        fault("fine 1a;", 6);
        fault("fine 1z;", 6);
        fault("bankfine 1;", 0);
        fault("level 1 to2x;", 11);
        law("level1to2;fine0;fine9;");
        fault("level 1 tofine 2;", 8);
        // digits as long as they go: no NUMBER of four and one more
        fault("fine 12345;", 5);
        fault("level 1234to12345;", 12);
        // each ";" is a token
        fault("fine 1;;", 7);
        fault(";;", 0);
    }

    private void firstToken() {
        edge.sentence(17, "FAULT: the place of the first byte of the first token (or byte that begins none)"
            + " with which no such text goes on;");
        fault("x", 0);
        fault("   xyz", 3);
        fault("fine 1; xyz 2; abc", 8);
        fault("fine abc;", 5);
        fault("fine   \u00ff;", 7);
        fault("fine 1 xyz;", 7);
        fault("level 1 xyz 2;", 8);
        fault("level 1 to xyz;", 11);
        fault("level 1 to 2 xyz", 13);
        fault("fine 1; bank", 12);
        fault("fine 1; ban", 8);
        fault("level 1 t", 8);
        // a token cut by n is what stands there: a NUMBER may be cut, a word not
        int[][] cut = {{4, 4}, {3, 0}, {2, 0}, {1, 0}, {5, 5}, {6, 6}, {8, 8}, {9, 9}};
        for (int[] at : cut) {
            DredgePond x = new DredgePond(2, 2);
            Check.feed(x, "fine 1234;");
            edge.due("cut to " + at[0], x.law(at[0]), NONE);
            edge.due("cut to " + at[0] + ", FAULT", x.fault(), at[1]);
        }
        // what stands behind n on the tape is no part of the text
        DredgePond y = new DredgePond(2, 2);
        Check.feed(y, "fine 12345;");
        edge.due("cut in five digits", y.law(9), NONE);
        edge.due("cut in five digits: more must come", y.fault(), 9);
        DredgePond z = new DredgePond(2, 2);
        Check.feed(z, "fine 1;;");
        edge.due("cut ahead of a FAULT", z.law(7), 0);
        // to the tape's very end
        DredgePond last = new DredgePond(2, 2);
        Check.feed(last, " ".repeat(299) + "x");
        edge.due("the 300th byte", last.law(300), NONE);
        edge.due("the 300th byte", last.fault(), 299);
    }

    private void moreMustCome() {
        edge.sentence(17, "the text's length, if more must come;");
        for (String text : new String[] {"fine", "fine ", "fine 1", "fine 1234", "fine 1\n ", "level", "level 1",
            "level 1 to", "level 1 to ", "level 1 to 2", "level 1 to 2  \n", "fine 1; bank", "fine 1; bank 2"}) {
            fault(text, text.length());
        }
        fault("fine" + " ".repeat(296), 300);
        fault("fine 1;".repeat(11) + "fine 1", 83);
        law("fine 1;".repeat(12));
    }

    private void thirteenth() {
        edge.sentence(17, "the 13th statement: where it begins.");
        String twelve = "fine 1;".repeat(12);
        fault(twelve + "fine 1;", 84);
        fault(twelve + "  \nfine 1;", 87);
        fault(twelve + "fine", 84);
        fault(twelve + "fine 12345;", 84);
        fault(twelve + "fine x", 84);
        fault(twelve + "xyz", 84);
        fault(twelve + ";", 84);
        fault(twelve + "  !", 86);
        // a FAULT of an earlier one comes first
        fault("fine 1;".repeat(11) + "fine 1 2;fine 1;", 84);
        fault("bank;" + twelve, 4);
    }
}
