/** The edges that section 10 names: the text, its first error, programs by their meaning, and their code. */
public final class ProgramEdges extends Checks {
    private static final int KEY = Rangehold.KEY, ZERO = Rangehold.ZERO, TIRED = Rangehold.TIRED, FAILED = Rangehold.FAILED;
    private static final int MIN = Integer.MIN_VALUE, MAX = Integer.MAX_VALUE;
    private static final String[] WORDS = {"tx", "get", "has", "put", "del", "scan", "if", "else", "while", "give", "fail"};
    private static final String SIX = "tx aa{}tx bb{}tx cc{}tx dd{}tx ee{}tx ff{}";

    private static void fine(String words) {
        error(words, 0, NONE);
    }

    /** The error is at the place of the sign !, which is not in the text itself. */
    private static void errorAt(int kind, String words) {
        error(words.replace("!", ""), kind, words.indexOf('!'));
    }

    private static String in(String statements) {
        return "tx ab{" + statements + "}";
    }

    // the text

    private static void bytes() {
        Rangehold x = new Rangehold();
        is("clearText of an empty text", x.clearText(), 0);
        is("the highest byte first, without those that are 0", x.type(0x7400780000200061L, 0, 0x0062000000000000L, 0, 0x7BL, 0x7DL << 56), 7);
        is("which is a program", x.errorKind(), 0);
        is("load", x.load(), 1);
        is("the text is empty", x.count(18), 0);
        is("bytes of each number", x.type(-1, -1, -1, -1, -1, -1), 48);
        is("a byte 255 begins no token", x.errorKind(), 1);
        is("clearText", x.clearText(), 48);
        is("a byte 1 is a byte", x.type(1, 0, 0, 0, 0, 0), 1);
        is("behind that", x.type(0, 0, 0, 0, 0, 256), 2);
        is("it begins no token", x.errorPlace(), 0);
        x.clearText();
        for (int i = 0; i < 25; i++) {
            x.type(0x2020202020202020L, 0x2020202020202020L, 0x2020202020202020L, 0x2020202020202020L, 0x2020202020202020L, 0x2020202020202020L);
        }
        is("1200 bytes", x.count(18), 1200);
        fails("one more", BAD_STATE, x, () -> x.type(0, 0, 0, 1, 0, 0));
        is("none more", x.type(0, 0, 0, 0, 0, 0), 1200);
        is("they mean nothing", x.errorKind(), 0);
        is("load", x.load(), 1);
        for (int i = 0; i < 24; i++) {
            x.type(0x2020202020202020L, 0x2020202020202020L, 0x2020202020202020L, 0x2020202020202020L, 0x2020202020202020L, 0x2020202020202020L);
        }
        is("room for 47 bytes", x.type(32, 0, 0, 0, 0, 0), 1153);
        fails("48 do not fit", BAD_STATE, x, () -> x.type(-1, -1, -1, -1, -1, -1));
        is("47 do", x.type(-1, -1, -1, -1, -1, -256), 1200);
        is("clearText", x.clearText(), 1200);
        is("clearText again", x.clearText(), 0);
    }

    private static void pieces() {
        for (int i = 0; i < 6; i++) {
            Rangehold x = new Rangehold();
            is("a piece and a byte 10", x.piece(i), PIECES[i].length() + 1);
            Rangehold y = new Rangehold();
            put(y, PIECES[i] + "\n");
            is("its length", y.count(18), x.count(18));
            is("load", x.load() + y.load(), 2);
            is("their code", Snapshot.of(x).equals(Snapshot.of(y)), true);
            Rangehold full = new Rangehold();
            int room = 1200 - PIECES[i].length() - 1;
            while (full.count(18) < room) {
                full.type(' ', 0, 0, 0, 0, 0);
            }
            is("it just fits", full.piece(i), 1200);
            full.clearText();
            while (full.count(18) < room + 1) {
                full.type(' ', 0, 0, 0, 0, 0);
            }
            int which = i;
            fails("its last byte does not", BAD_STATE, full, () -> full.piece(which));
        }
        Rangehold x = new Rangehold();
        for (int i = 0; i < 6; i++) {
            x.piece(i);
        }
        is("all of them", x.load(), 6);
        int[][] runs = {{0, 3, 3, 0, 0}, {1, 0, 9, 0, 0}, {2, 0, 4, 0, 4}, {3, 1, 2, 0, 0}, {4, 7, 0, 0, 0}, {5, 0, 32, 0, 0}};
        for (int[] run : runs) {
            is("a trial of " + run[0], x.trial(run[0], run[1], run[2]), run[3]);
            is("gives", x.trialAt(0), run[4]);
        }
    }

    // tokens

    private static void tokens() {
        fine("");
        fine(" ");
        fine("\n \n");
        fine("tx ab{}");
        fine("\ntx\nab\n{\n}\n");
        fine(in("a=b+c-d*e/f%g;h=i<j;k=l>m;n=o=p;q=(r);"));
        errorAt(1, "!\ttx ab{}");
        errorAt(1, "tx ab{}!\r");
        errorAt(1, in("a=1!.5;"));
        errorAt(1, in("!A=1;"));
        errorAt(1, in("a=b!Z;"));
        for (char sign : "\"#$&'.:?@[\\]^_`|~".toCharArray()) {
            errorAt(1, in("a=1!" + sign + ";"));
        }
        errorAt(1, in("a=1!" + (char) 127 + ";"));
        errorAt(1, in("a=1!" + (char) 128 + ";"));
        errorAt(1, in("a=1!" + (char) 255 + ";"));
        errorAt(1, in("a=1!" + (char) 1 + ";"));
        Rangehold x = new Rangehold();
        put(x, in("a=1" + "!" + ";"));
        is("the sign ! begins no token", x.errorKind(), 1);
        is("its place", x.errorPlace(), 9);
        errorAt(2, "!txab{}");
        errorAt(2, in("a=1!b;"));
        errorAt(2, in("get a1!b;"));
        fine(in("get a1;"));
        fine(in("get a 1;"));
        errorAt(2, in("!getb 1;"));
        errorAt(2, in("a=!aa;"));
        errorAt(2, in("a=a !b;"));
    }

    private static void numbers() {
        fine(in("a=999999;"));
        fine(in("a=000000999999;"));
        fine(in("a=0;"));
        fine(in("a=00000000000000000000;"));
        errorAt(1, in("a=!1000000;"));
        errorAt(1, in("a=!0001000000;"));
        errorAt(1, in("a=!4294967296;"));
        errorAt(1, in("a=!99999999999999999999999;"));
        errorAt(1, in("a=!2147483648;"));
        errorAt(1, in("a=1+!1000000;"));
        errorAt(1, in("!1000000"));
        errorAt(2, in("!999999"));
        errorAt(1, "!1000000");
        errorAt(2, "!0");
        errorAt(1, in("a=1 !1000000;"));
        given("give 999999;", 0, 0, 999999);
        given("give 000123;", 0, 0, 123);
    }

    private static void names() {
        fine("tx ab{}");
        fine("tx abcdefgh{}");
        errorAt(2, "tx !a{}");
        errorAt(2, "tx !abcdefghi{}");
        errorAt(2, "tx !1{}");
        errorAt(2, "tx !{}");
        errorAt(2, "tx!");
        errorAt(2, "tx !");
        for (String word : WORDS) {
            errorAt(2, "tx !" + word + "{}");
            fine("tx " + word + "x{}");
            errorAt(2, in(word.equals("fail") ? "a=!" + word + ";" : "a=!" + word));
        }
        errorAt(4, "tx ab{}tx !ab{}");
        errorAt(4, "tx ab{}tx cd{}tx !ab{}");
        fine("tx ab{}tx ba{}");
        fine("tx ab{}tx abb{}tx aba{}");
        fine("tx aaaaaaaa{}tx aaaaaaab{}tx baaaaaaa{}tx aaaaaaa{}");
        Rangehold x = with(new Rangehold(), "tx ab{}tx cd{}");
        put(x, "tx ef{}tx cd{}");
        is("a name that is in the house", x.errorKind(), 4);
        is("its place", x.errorPlace(), 10);
        fails("load", BAD_STATE, x, x::load);
        x.clearText();
        put(x, "tx dc{}");
        is("another one", x.load(), 3);
    }

    private static void programCounts() {
        fine(SIX);
        errorAt(5, SIX + "!tx gg{}");
        errorAt(5, SIX + "!tx aa{}");
        errorAt(5, SIX + "\n!tx");
        errorAt(2, SIX + "!gg");
        errorAt(2, SIX + "!txx");
        errorAt(1, SIX + "!~");
        for (int ahead = 0; ahead <= 6; ahead++) {
            Rangehold x = with(new Rangehold(), SIX.substring(0, 7 * ahead));
            is("programs", x.count(17), ahead);
            put(x, SIX.substring(7 * ahead));
            is("six in all", x.errorKind(), 0);
            put(x, "tx gg{}");
            is("the word tx of a 7th", x.errorKind(), 5);
            is("its place", x.errorPlace(), 7 * (6 - ahead));
            fails("load", BAD_STATE, x, x::load);
            x.clearText();
            put(x, SIX.substring(7 * ahead));
            is("load of the rest", x.load(), 6);
            is("load of nothing", x.load(), 6);
        }
    }

    /** What cannot stand there, or the end, at each place of each statement. */
    private static void grammar() {
        String[] statements = {"a = 1 + 2 * 3 ;", "get a 1 < 2 ;", "has a b ;", "put 1 , 2 ;", "del 1 - 1 ;", "scan k v 1 , 2 { }", "scan k v 0 , 9 { a = k ; }", "if 1 { }",
            "if 1 { a = 1 ; } else { b = 1 ; }", "while 1 > 2 { fail ; }", "give ( 1 ) ;", "give - - 1 % 2 / 3 = 4 ;", "fail ;"};
        for (String statement : statements) {
            fine(in(statement));
            fine(in(statement + statement));
            fine(in("if 1{" + statement + "}"));
            String[] words = statement.split(" ");
            String ahead = "tx ab{";
            for (int i = 0; i < words.length; i++) {
                error(ahead.trim(), 2, ahead.trim().length());
                error(ahead + " ", 2, ahead.length() + 1);
                error(ahead + "tx", 2, ahead.length());
                error(ahead + "~", 1, ahead.length());
                ahead += words[i] + " ";
            }
        }
        errorAt(2, "tx ab!");
        errorAt(2, "tx ab!(");
        errorAt(2, "tx ab{!");
        errorAt(2, "tx ab{}!}");
        errorAt(2, "tx ab{}!;");
        errorAt(2, "!{}");
        errorAt(2, "!ab{}");
        errorAt(2, in("a=1<2!<3;"));
        errorAt(2, in("a=1=2!=3;"));
        errorAt(2, in("a=1>2!=3;"));
        fine(in("a=(1<2)<3;"));
        errorAt(2, in("a=(1!;"));
        errorAt(2, in("a=1!);"));
        errorAt(2, in("a=1+!+2;"));
        fine(in("a=1--2;"));
        fine(in("a=-1;"));
        errorAt(2, in("a=1-!;"));
        errorAt(2, in("a=(!);"));
        errorAt(2, in("if 1{}else{}!else{}"));
        errorAt(2, in("while 1{}!else{}"));
        errorAt(2, in("!else{}"));
        errorAt(2, in("if 1!;"));
        errorAt(2, in("put 1!;"));
        errorAt(2, in("del 1!,2;"));
        errorAt(2, in("!;"));
        errorAt(2, in("!{}"));
        errorAt(2, in("fail!1;"));
        errorAt(2, in("a!<1;"));
    }

    private static void scansInText() {
        fine(in("scan a b 0,1{}"));
        errorAt(4, in("scan a !a 0,1{}"));
        errorAt(2, in("scan a !aa 0,1{}"));
        errorAt(2, in("scan !aa a 0,1{}"));
        errorAt(2, in("scan a !1 0,1{}"));
        fine(in("scan a b a,b{}"));
        errorAt(2, in("scan a b 0,1{!scan c d 0,1{}}"));
        errorAt(2, in("scan a b 0,1{if 1{!scan c d 0,1{}}}"));
        errorAt(2, in("scan a b 0,1{while 1{}if 1{}else{!scan c d 0,1{}}}"));
        errorAt(2, in("scan a b 0,1{!scan c c 0,1{}}"));
        fine(in("scan a b 0,1{}scan a b 0,1{}"));
        fine(in("if 1{scan a b 0,1{}}while 0{scan b a 0,1{}}"));
        fine("tx ab{scan a b 0,1{}}tx cd{scan a b 0,1{}}");
        errorAt(2, in("scan a b 0!{}"));
        errorAt(2, in("scan a b 0,1!;"));
    }

    private static String times(String words, int many) {
        return words.repeat(many);
    }

    private static void depths() {
        fine(in("a=" + times("(", 11) + "1" + times(")", 11) + ";"));
        errorAt(3, in("a=" + times("(", 11) + "!(1" + times(")", 12) + ";"));
        fine(in("a=" + times("-", 11) + "1;"));
        errorAt(3, in("a=" + times("-", 11) + "!-1;"));
        fine(in("a=" + times("-(", 5) + "-1" + times(")", 5) + ";"));
        errorAt(3, in("a=" + times("-(", 5) + "-!(1)" + times(")", 5) + ";"));
        errorAt(3, in("a=" + times("-(", 5) + "-!-1" + times(")", 5) + ";"));
        fine(in("a=" + times("(", 11) + "1-1" + times(")", 11) + ";"));
        errorAt(3, in("a=" + times("(", 11) + "1-!-1" + times(")", 11) + ";"));
        errorAt(2, in("a=" + times("(", 11) + "1!(1" + times(")", 12) + ";"));
        errorAt(2, in("a=" + times("(", 11) + "!)"));
        fine(in("a=" + times("-1+", 40) + "1;"));
        fine(in("a=" + times("(1)+", 40) + "1;"));
        fine(in("a=" + times("---1*", 20) + "1;"));
        fine(in("a=" + times("-", 11) + "1+" + times("-", 11) + "1;"));
        fine(in(times("if 1{", 11) + times("}", 11)));
        errorAt(3, in(times("if 1{", 11) + "if 1!{" + times("}", 12)));
        errorAt(2, in(times("if 1{", 11) + "if 1!(" + times("}", 12)));
        errorAt(3, in(times("if 1{", 11) + "a=!(1);" + times("}", 11)));
        errorAt(3, in(times("while 0{", 11) + "if !-1{}" + times("}", 11)));
        fine(in(times("while 0{", 11) + "a=1-1>0;" + times("}", 11)));
        fine(in(times("if 1{", 10) + "a=(1);b=-1;if 1{}else{}" + times("}", 10)));
        errorAt(3, in(times("if 1{", 10) + "if 1{}else{if 1!{}}" + times("}", 10)));
        errorAt(3, in(times("if 1{", 10) + "scan k v (0),(1){a=!(1);}" + times("}", 10)));
        fine(in("if 1{a=" + times("(", 10) + "1" + times(")", 10) + ";}"));
        errorAt(3, in("if 1{a=" + times("(", 10) + "!(1" + times(")", 11) + ";}"));
        fine(in("if " + times("(", 11) + "1" + times(")", 11) + "{}"));
        fine(in("if (1){if -1{}}" + times("if(1){}", 20)));
    }

    /** If several kinds apply to a token, the least one is told; the first token with an error counts. */
    private static void firstErrors() {
        errorAt(2, in("scan!1; a=1000000;"));
        errorAt(1, in("a=!1000000; b=;"));
        errorAt(2, "tx !a{}tx a{}");
        errorAt(4, "tx ab{}tx !ab{~");
        errorAt(2, "tx ab{}tx cd !tx ab");
        errorAt(4, in("scan a !a ~"));
        errorAt(1, in("scan a !~ a"));
        errorAt(3, in(times("if 1{", 11) + "if 1!{~"));
    }

    private static void loads() {
        Rangehold x = new Rangehold();
        is("load of nothing", x.load(), 0);
        put(x, "tx ab{");
        fails("load of an error", BAD_STATE, x, x::load);
        is("the place of the end", x.errorPlace(), 6);
        put(x, "give 1;}");
        is("load", x.load(), 1);
        is("the text is empty", x.count(18), 0);
        is("no error", x.errorPlace(), NONE);
        put(x, "tx cd{give 2;}tx ef{give 3;}");
        is("programs in the order of the text", x.load(), 3);
        for (int i = 0; i < 3; i++) {
            is("a trial", x.trial(i, 0, 0), 0);
            is("gives", x.trialAt(0), i + 1);
        }
        put(x, "tx gh{give 4;}tx ij{");
        fails("a text with an error brings no program", BAD_STATE, x, x::load);
        is("programs", x.count(17), 3);
    }

    // meaning

    private static void given(String statements, int a, int b, int due) {
        Rangehold x = with(new Rangehold(), in(statements));
        is(statements, x.trial(0, a, b), 0);
        is(statements, x.trialAt(0), due);
    }

    private static void fallen(String statements, int a, int b, int due, int steps) {
        Rangehold x = with(new Rangehold(), in("put 1,1;" + statements));
        is(statements, x.trial(0, a, b), due);
        is("what fell gives nothing", x.trialAt(0), 0);
        is("steps of " + statements, x.trialAt(1), steps);
        is("what fell puts nothing", x.trialAt(3), ABSENT);
    }

    private static void expressions() {
        given("give a/b;", MIN, -1, MIN);
        given("give a%b;", MIN, -1, 0);
        given("give a/b;", 7, 1, 7);
        given("give a%b;", 7, 1, 0);
        given("give a/b;", -7, 2, -3);
        given("give a%b;", -7, 2, -1);
        given("give a%b;", 7, -2, 1);
        given("give a/b;", 0, 5, 0);
        given("give a*b;", MAX, 2, -2);
        given("give a*b;", MIN, -1, MIN);
        given("give a+b;", MAX, 1, MIN);
        given("give a-b;", MIN, 1, MAX);
        given("give -a;", MIN, 0, MIN);
        given("give -a;", MAX, 0, -MAX);
        given("give --a;", 5, 0, 5);
        given("give a-b-1;", 9, 3, 5);
        given("give a/b/2;", 64, 4, 8);
        given("give a/b*4;", 7, 2, 12);
        given("give a+b*3;", 2, 5, 17);
        given("give (a+b)*3;", 2, 5, 21);
        given("give -a*b;", 2, 5, -10);
        given("give -(a+b);", 2, 5, -7);
        given("give a- -b;", 2, 5, 7);
        int[][] pairs = {{1, 2}, {2, 2}, {3, 2}, {MIN, MAX}, {MAX, MIN}, {-1, 0}, {0, 0}, {MIN, MIN}};
        for (int[] pair : pairs) {
            given("give a<b;", pair[0], pair[1], pair[0] < pair[1] ? 1 : 0);
            given("give a>b;", pair[0], pair[1], pair[0] > pair[1] ? 1 : 0);
            given("give a=b;", pair[0], pair[1], pair[0] == pair[1] ? 1 : 0);
        }
        given("give a+1<b*2;", 3, 2, 0);
        given("give (a<b)+(b>a)*2;", 1, 2, 3);
    }

    private static void variables() {
        given("give a;", MIN, MAX, MIN);
        given("give b;", MIN, MAX, MAX);
        for (char variable = 'c'; variable <= 'z'; variable++) {
            given("give " + variable + ";", 7, 8, 0);
            given(variable + "=a;give " + variable + ";", 7, 8, 7);
        }
        given("a=b;b=1;give a;", 7, 8, 8);
        given("", 7, 8, 0);
        given("give 1;give 2;", 0, 0, 1);
        given("give a;fail;", 5, 0, 5);
        given("while 1{give 3;}", 0, 0, 3);
        given("put 0,1;scan k v 0,1{give 4;}give 5;", 0, 0, 4);
        given("if 0{give 1;}", 0, 0, 0);
        given("if -1{give 1;}else{give 2;}", 0, 0, 1);
        given("if a{give 1;}else{give 2;}", MIN, 0, 1);
        given("if 0{give 1;}else{give 2;}", 0, 0, 2);
        given("while a<3{a=a+1;b=b+a;}give b;", 0, 0, 6);
        given("while 0{fail;}give 7;", 0, 0, 7);
        given("while a{a=a+1;}give b;", -3, 9, 9);
    }

    private static void keysOfPrograms() {
        given("get x 0;has y 0;give x*10+y;", 0, 0, 0);
        given("put 0,0;get x 0;has y 0;give x*10+y;", 0, 0, 1);
        given("put 31,a;get x 31;give x;", MIN, 0, MIN);
        given("put 5,7;del 5;has x 5;give x;", 0, 0, 0);
        given("del 5;del 5;has x 5;give x;", 0, 0, 0);
        given("x=9;get x 5;give x;", 0, 0, 0);
        given("x=9;has x 5;give x;", 0, 0, 0);
        String[] keys = {"get x a;", "has x a;", "put a,1;", "del a;"};
        for (String statement : keys) {
            given(statement, 0, 0, 0);
            given(statement, 31, 0, 0);
            fallen(statement, -1, 0, KEY, 2);
            fallen(statement, 32, 0, KEY, 2);
            fallen(statement, MIN, 0, KEY, 2);
            fallen(statement, MAX, 0, KEY, 2);
        }
        fallen("put a,1/b;", 32, 0, ZERO, 2);
        fallen("put 1/b,a;", 32, 0, ZERO, 2);
        given("put a,b;get x a;give x;", 3, -4, -4);
        given("put a+1,a;get x 4;give x;", 3, 0, 3);
    }

    private static void scansOfPrograms() {
        given("scan k v 0,1{}", 0, 0, 0);
        given("scan k v 31,32{}", 0, 0, 0);
        given("scan k v a,b{}", 0, 32, 0);
        fallen("scan k v a,b{}", -1, 5, KEY, 2);
        fallen("scan k v a,b{}", 32, 33, KEY, 2);
        fallen("scan k v a,b{}", 32, 32, KEY, 2);
        fallen("scan k v a,b{}", 0, 0, KEY, 2);
        fallen("scan k v a,b{}", 5, 5, KEY, 2);
        fallen("scan k v a,b{}", 5, 4, KEY, 2);
        fallen("scan k v a,b{}", 0, 33, KEY, 2);
        fallen("scan k v a,b{}", 31, 33, KEY, 2);
        fallen("scan k v a,b{}", MIN, MAX, KEY, 2);
        fallen("scan k v 40,1/b{}", 0, 0, ZERO, 2);
        String map = "put 0,1;put 3,20;put 4,300;put 31,4000;";
        given(map + "scan k v 0,32{s=s+v;n=n*100+k;}give s;", 0, 0, 4321);
        given(map + "scan k v 0,32{n=n*100+k;}give n;", 0, 0, 30431);
        given(map + "scan k v 3,4{s=s+v;}give s;", 0, 0, 20);
        given(map + "scan k v 1,3{s=s+1;}give s;", 0, 0, 0);
        given(map + "scan k v 4,31{s=s+v;}give s;", 0, 0, 300);
        given(map + "scan k v 0,32{del 31;put 5,1;put k,v+1;s=s+v;}get x 3;give s*100+x;", 0, 0, 432121);
        given(map + "k=9;v=8;scan k v 5,31{}give k*10+v;", 0, 0, 98);
        given(map + "scan k v 0,32{k=0;v=0;n=n+1;}give n*10+k+v;", 0, 0, 40);
        given(map + "scan k v 0,32{}give k*10000+v;", 0, 0, 314000);
        given(map + "scan k v 0,32{if k=3{give v;}}give 9;", 0, 0, 20);
        given(map + "while a<2{scan k v 0,32{n=n+1;}a=a+1;}give n;", 0, 0, 8);
        given(map + "scan k v k,k+4{k=9;s=s+v;}give s;", 0, 0, 21);
    }

    private static void steps(String statements, int a, int due) {
        Rangehold x = with(new Rangehold(), in(statements));
        is(statements, x.trial(0, a, 0), 0);
        is("steps of " + statements, x.trialAt(1), due);
    }

    private static void stepsOfPrograms() {
        steps("", 0, 0);
        steps("a=1;", 0, 1);
        steps("give 1;a=1;", 0, 1);
        steps("if 1{a=1;}else{}", 0, 2);
        steps("if 0{a=1;}", 0, 1);
        steps("if 0{a=1;}else{a=1;b=1;}", 0, 3);
        steps("while 0{a=1;}", 0, 1);
        steps("while a{a=a-1;}", 1, 3);
        steps("while a{a=a-1;}", 2, 5);
        steps("while a{a=0;}while a{}", 1, 4);
        steps("scan k v 0,32{}", 0, 1);
        steps("put 1,1;put 2,2;scan k v 0,32{}", 0, 5);
        steps("put 1,1;put 2,2;scan k v 0,32{a=1;}", 0, 7);
        steps("put 1,1;put 2,2;scan k v 2,32{a=1;}", 0, 5);
    }

    /** The 100th step is made, the 101st is not; each kind of a step can be that one. */
    private static void tired() {
        String many = times("a=1;", 99);
        given(many + "give 5;", 0, 0, 5);
        steps(many + "give 5;", 0, 100);
        steps(many, 0, 99);
        steps(times("a=1;", 100), 0, 100);
        fallen(many + "give 5;", 0, 0, TIRED, 100);
        fallen(times("a=1;", 98) + "fail;", 0, 0, FAILED, 100);
        fallen(times("a=1;", 99) + "fail;", 0, 0, TIRED, 100);
        fallen(times("a=1;", 98) + "b=1/0;", 0, 0, ZERO, 100);
        fallen(times("a=1;", 99) + "b=1/0;", 0, 0, TIRED, 100);
        fallen(times("a=1;", 99) + "del 32;", 0, 0, TIRED, 100);
        fallen("while 1{}", 0, 0, TIRED, 100);
        fallen("while 1{a=1;}", 0, 0, TIRED, 100);
        fallen("while 0<1{while 0{}}", 0, 0, TIRED, 100);
        String pair = "put 1,1;put 2,2;";
        steps(pair + times("a=1;", 95) + "scan k v 0,32{}", 0, 100);
        fallen(pair + times("a=1;", 95) + "scan k v 0,32{}", 0, 0, TIRED, 100);
        fallen(times("a=1;", 96) + "while b<3{b=b+1;}", 0, 0, TIRED, 100);
        steps("while b<49{b=b+1;}", 0, 99);
        steps("c=1;while b<49{b=b+1;}", 0, 100);
        fallen("c=1;while b<49{b=b+1;}", 0, 0, TIRED, 100);
    }

    private static void trials() {
        Rangehold x = with(alone(), "tx ab{get x a;put a,x+1;put 30,7;del 4;if b{fail;}give x;}tx cd{give 3;}");
        is("ahead of any trial", x.trialAt(0), 0);
        is("no steps", x.trialAt(1), 0);
        for (int key = 0; key < 32; key++) {
            is("no key", x.trialAt(2 + key), ABSENT);
        }
        settled(x, 0, 4, 40, 5, 50);
        commit(x, 0, 6, 60);
        commit(x, 0, 0, 9);
        is("an intent that is not committed", answer(x, x.write(x.begin(0), 7, 70, 0, 0)), OK);
        String before = Snapshot.of(x);
        is("a trial", x.trial(0, 5, 0), 0);
        is("on what the committed transactions leave", x.trialAt(0), 50);
        is("what it put", x.trialAt(2 + 5), 51);
        is("what it took away", x.trialAt(2 + 4), ABSENT);
        is("what it left", x.trialAt(2 + 6), 60);
        is("the first key", x.trialAt(2), 9);
        is("what is not committed is not there", x.trialAt(2 + 7), ABSENT);
        is("what it put", x.trialAt(2 + 30), 7);
        is("the last key", x.trialAt(33), ABSENT);
        is("nothing else changes", cut(Snapshot.of(x)).equals(cut(before)), true);
        is("a trial that falls", x.trial(0, 5, 1), FAILED);
        is("gives nothing", x.trialAt(0), 0);
        is("as if nothing was written", x.trialAt(2 + 5), 50);
        is("nor taken away", x.trialAt(2 + 4), 40);
        is("its steps", x.trialAt(1), 6);
        is("the latest trial", x.trial(1, 0, 0), 0);
        is("gives", x.trialAt(0), 3);
        is("its steps", x.trialAt(1), 1);
        is("its keys", x.trialAt(2 + 5), 50);
        x.stop(0, true);
        is("also when all nodes are down", x.trial(0, 4, 0), 0);
        is("it gives", x.trialAt(0), 40);
    }

    private static String cut(String snapshot) {
        return snapshot.substring(0, snapshot.indexOf("trial"));
    }

    // code

    private static void code(String statements, int... due) {
        Rangehold x = with(new Rangehold(), "tx zz{fail;}" + in(statements));
        is("codeLength of " + statements, x.codeLength(1), due.length / 4);
        for (int i = 0; i < due.length; i++) {
            if (i / 4 < x.codeLength(1)) {
                is(statements + ": " + i / 4 + ", " + i % 4, x.codeAt(1, i / 4, i % 4), due[i]);
            }
        }
        is("the code of another one", x.codeLength(0), 3);
    }

    private static void codes() {
        code("", 23, 0, 0, 0);
        code("a=0;", 0, 0, 0, 0, 1, 0, 0, 0, 3, 0, 0, 0, 23, 0, 0, 0);
        code("z=999999;", 0, 0, 0, 0, 1, 999999, 0, 0, 3, 25, 0, 0, 23, 0, 0, 0);
        code("a=-b;", 0, 0, 0, 0, 2, 1, 0, 0, 12, 0, 0, 0, 3, 0, 0, 0, 23, 0, 0, 0);
        String signs = "+-*/%<>=";
        for (int i = 0; i < signs.length(); i++) {
            code("a=1" + signs.charAt(i) + "b;", 0, 0, 0, 0, 1, 1, 0, 0, 2, 1, 0, 0, 4 + i, 0, 0, 0, 3, 0, 0, 0, 23, 0, 0, 0);
        }
        code("a=1-2-3;", 0, 0, 0, 0, 1, 1, 0, 0, 1, 2, 0, 0, 5, 0, 0, 0, 1, 3, 0, 0, 5, 0, 0, 0, 3, 0, 0, 0, 23, 0, 0, 0);
        code("a=1-(2-3);", 0, 0, 0, 0, 1, 1, 0, 0, 1, 2, 0, 0, 1, 3, 0, 0, 5, 0, 0, 0, 5, 0, 0, 0, 3, 0, 0, 0, 23, 0, 0, 0);
        code("a=1+2*3<4;", 0, 0, 0, 0, 1, 1, 0, 0, 1, 2, 0, 0, 1, 3, 0, 0, 6, 0, 0, 0, 4, 0, 0, 0, 1, 4, 0, 0, 9, 0, 0, 0, 3, 0, 0, 0, 23, 0, 0, 0);
        code("get c 1;", 0, 0, 0, 0, 1, 1, 0, 0, 15, 2, 0, 0, 23, 0, 0, 0);
        code("has z 1;", 0, 0, 0, 0, 1, 1, 0, 0, 16, 25, 0, 0, 23, 0, 0, 0);
        code("put 1,2;", 0, 0, 0, 0, 1, 1, 0, 0, 1, 2, 0, 0, 17, 0, 0, 0, 23, 0, 0, 0);
        code("del 1;", 0, 0, 0, 0, 1, 1, 0, 0, 18, 0, 0, 0, 23, 0, 0, 0);
        code("give 1;", 0, 0, 0, 0, 1, 1, 0, 0, 21, 0, 0, 0, 23, 0, 0, 0);
        code("fail;", 0, 0, 0, 0, 22, 0, 0, 0, 23, 0, 0, 0);
        code("scan k v 1,2{}", 0, 0, 0, 0, 1, 1, 0, 0, 1, 2, 0, 0, 19, 0, 0, 0, 20, 10, 21, 7, 0, 0, 0, 0, 13, 4, 0, 0, 23, 0, 0, 0);
        code("scan a z 1,2{fail;}", 0, 0, 0, 0, 1, 1, 0, 0, 1, 2, 0, 0, 19, 0, 0, 0, 20, 0, 25, 9, 0, 0, 0, 0, 0, 0, 0, 0, 22, 0, 0, 0, 13, 4, 0, 0, 23, 0, 0, 0);
        code("if 1{}", 0, 0, 0, 0, 1, 1, 0, 0, 14, 3, 0, 0, 23, 0, 0, 0);
        code("if 1{fail;}", 0, 0, 0, 0, 1, 1, 0, 0, 14, 5, 0, 0, 0, 0, 0, 0, 22, 0, 0, 0, 23, 0, 0, 0);
        code("if 1{}else{}", 0, 0, 0, 0, 1, 1, 0, 0, 14, 4, 0, 0, 13, 4, 0, 0, 23, 0, 0, 0);
        code("if 1{fail;}else{fail;}", 0, 0, 0, 0, 1, 1, 0, 0, 14, 6, 0, 0, 0, 0, 0, 0, 22, 0, 0, 0, 13, 8, 0, 0, 0, 0, 0, 0, 22, 0, 0, 0, 23, 0, 0, 0);
        code("while 1{}", 0, 0, 0, 0, 1, 1, 0, 0, 14, 4, 0, 0, 13, 0, 0, 0, 23, 0, 0, 0);
        code("fail;while 1{fail;}", 0, 0, 0, 0, 22, 0, 0, 0, 0, 0, 0, 0, 1, 1, 0, 0, 14, 8, 0, 0, 0, 0, 0, 0, 22, 0, 0, 0, 13, 2, 0, 0, 23, 0, 0, 0);
    }

    /** The longest text has the longest code. */
    private static void longCode() {
        Rangehold x = new Rangehold();
        String head = "tx ab{a=1";
        put(x, head);
        while (x.count(18) + 2 <= 1198) {
            put(x, "+1");
        }
        put(x, ";}");
        int many = (int) (x.count(18) - head.length() - 2) / 2;
        is("no error", x.errorKind(), 0);
        is("a long text", x.count(18) >= 1199, true);
        is("load", x.load(), 1);
        is("its code", x.codeLength(0), 4 + 2 * many);
        is("its last instruction", x.codeAt(0, 3 + 2 * many, 0), 23);
        is("the one ahead", x.codeAt(0, 2 + 2 * many, 0), 3);
    }

    public static void main(String[] args) {
        bytes();
        pieces();
        tokens();
        numbers();
        names();
        programCounts();
        grammar();
        scansInText();
        depths();
        firstErrors();
        loads();
        expressions();
        variables();
        keysOfPrograms();
        scansOfPrograms();
        stepsOfPrograms();
        tired();
        trials();
        codes();
        longCode();
        finish("ProgramEdges");
    }
}
