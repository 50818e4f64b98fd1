import java.io.IOException;
import java.nio.file.Files;
import java.nio.file.Path;
import java.util.ArrayList;
import java.util.HashSet;
import java.util.List;
import java.util.Set;
import java.util.regex.Matcher;
import java.util.regex.Pattern;

/**
 * The document's sentences from its first line on, each with lines of its own that fail if it does not hold.
 * The answers were worked out by hand. How they are told: see Lines.
 *
 * The sentences are compared with the document: each must stand in it as it is quoted here, and each word of
 * its terms and promises must stand in a sentence that is quoted.
 */
public final class SentencesTest {
  private static final Lines LINES = new Lines("SentencesTest");
  private static final Path DOCUMENT = Path.of("../shared/DOC.md");
  private static final Pattern WORD = Pattern.compile("[A-Za-z0-9]+");
  /** What an interface says ahead of its calls, if that binds them. */
  private static final Pattern HEADING = Pattern.compile("the interface says: ---- ([^().]*\\([^()]*\\))");

  private record Clause(String section, String sentence) {
  }

  private static final List<Clause> CLAUSES = new ArrayList<>();
  private static final Set<Clause> FOUND = new HashSet<>();

  /** gutter a - fork b - fall c (SOAK 2) - kitchen d, or rat e (TOLL 3) - kitchen f. */
  private static final String TOWN = "town gb;dce;fd2;k;rf3;k = 6\n";
  /** fork a - kitchens b, c. */
  private static final String FORK = "town dbc;k;k = 3\n";
  /** fork a - fork b - mill d that always grinds, or kitchen e; or, from a, kitchen c. */
  private static final String FORKS = "town dbc;dde;k;mc09;k = 5\n";
  /** No WATER ahead of MINUTE 300, then in one HOUR: at NOW 0 that is too late, at NOW 1 just in time. */
  private static final String DRY = "water 0000000000000000000000000000001 = 31\n";

  /** fork a - kitchen b, or mill c that always grinds; THING 0 waits at a, THING 1 is carried from there now. */
  private static final String LEAVING = "town dbc;k;mc09 = 3\nput(0,9,0,5) = 0\nput(0,9,0,0) = 1\n";

  public static void main(String[] args) throws IOException {
    manyCalls();
    townTexts();
    waters();
    things();
    ruleTexts();
    ruleValues();
    steps();
    rowsAndLooks();
    refusals();
    textCalls();
    townCalls();
    sheets();
    thingCalls();
    dayTexts();
    dayActs();
    undoing();
    whatWillBe();
    oneAlone();
    waitsAndRounds();
    turnedPlanks();
    duels();
    corks();
    likelihoods();
    marksAndOrders();
    kept();
    headings();
    compareWithDocument();
    LINES.end();
  }

  private static void clause(String section, String sentence, String... lines) {
    CLAUSES.add(new Clause(section, sentence));
    LINES.check(section + ", \"" + sentence + "\"", String.join("", lines));
  }

  /**
   * The call refused, without a change, with each wrong number and with the least and the greatest int in each
   * place; "any" tells that all numbers may stand there.
   */
  private static String outside(String name, String answer, String fine, String... wrongs) {
    String[] args = fine.split(" ");
    StringBuilder b = new StringBuilder();
    for (int i = 0; i < args.length; i++) {
      if (wrongs[i].equals("any")) {
        continue;
      }
      for (String bad : (wrongs[i] + " MIN MAX").split(" ")) {
        String[] told = args.clone();
        told[i] = bad;
        b.append("same ").append(name).append('(').append(String.join(",", told)).append(") = ").append(answer).append('\n');
      }
    }
    return b.toString();
  }

  private static String refused(String name, String fine, String... wrongs) {
    return outside(name, "-1", fine, wrongs);
  }

  /** With each of the rules a THING goes to the second PLACE (else to the first) of fork a. */
  private static String goes(boolean toSecond, String... rules) {
    StringBuilder b = new StringBuilder(FORK);
    for (String rule : rules) {
      b.append("rule ").append(rule).append(" = 0\n");
      b.append("sail(0,50,4,0,2) = ").append(toSecond ? "1\n" : "-2\n");
      b.append("sail(0,50,4,0,1) = ").append(toSecond ? "-2\n" : "1\n");
    }
    return b.toString();
  }

  // ---- what it is

  private static void manyCalls() {
    // 509 calls, with those by which Lines tells the town and looks at the ROW.
    clause("What it is", "An object is used for at most 512 calls after it has been made; what later calls answer is free.",
        TOWN, "put(0,99,9,0) = 0\n", "run(1) = 0\nplank(1,1) = 1\nundo() = 2\nundo() = 1\n".repeat(123), "run(3) = 1 | 1 0\nof(0,0) = 3\n");
  }

  // ---- the terms

  private static void townTexts() {
    clause("Terms", "each of a kind: gutter g, fork d, fall f, rat r, mill m, fish i, kitchen k.", """
        town ga = 1
        place(0,0) = 0
        town daa = 1
        place(0,0) = 1
        town fa1 = 1
        place(0,0) = 2
        town ra1 = 1
        place(0,0) = 3
        town ma00 = 1
        place(0,0) = 4
        town ia2 = 1
        place(0,0) = 5
        town k = 1
        place(0,0) = 6
        same town e = -1
        same town ha = -1
        same town G = -1
        same town 1a = -1
        """);
    clause("Terms", "PLACES 0 .. (at most 12; written a .. l)", """
        town k;k;k;k;k;k;k;k;k;k;k;gl = 12
        place(11,1) = 11
        place(12,0) = throws
        same town k;k;k;k;k;k;k;k;k;k;k;k;k = -25
        """);
    // Twelve forks, and eleven with a kitchen behind them: each leads to itself or, by PLANK 1, on.
    clause("Terms", "PLACES 0 .. (at most 12; written a .. l)", """
        town dab;dbc;dcd;dde;def;dfg;dgh;dhi;dij;djk;dkl;dla = 12
        count(3) = 4095
        plank(11,1) = 1
        count(4) = 2048
        maps() = 4096 | 0 0 0
        cork(11,0,-1) = 1
        maps() = 4096 | 0 0 0
        next(0) = 0 | 4096
        put(0,99,0,0) = 0
        same save(1) = -2
        marks(99,0,4095) = 0 | 0
        town dab;dbc;dcd;dde;def;dfg;dgh;dhi;dij;djk;dkl;k = 12
        ways(0,99,0,11) = 1 | 2047 2047
        ways(10,99,0,11) = 1024 | 1024 2047
        next(0) = 10 | 1024
        cork(0,0,11) = 1
        maps() = 1 | 2047 2047 0
        put(0,99,0,0) = 0
        put(9,99,0,0) = 1
        save(1) = 11 | 2047 11
        save(2) = 2 | 1536 2
        steer(0,11) = 11 | 2047 11
        duel(10,99,0,11,1) = 1 | 10
        duel(9,99,0,11,3) = 0 | -1
        plank(9,1) = 1
        duel(9,99,0,11,3) = 1 | 10
        """);
    clause("Terms", "All but kitchens lead to a next PLACE (a fork to two).", """
        town gg;dga;fg1;rg1;mg00;ig2;k = 7
        place(0,1) = 6
        place(1,1) = 6
        place(1,2) = 0
        place(2,1) = 6
        place(3,1) = 6
        place(4,1) = 6
        place(5,1) = 6
        place(6,1) = -1
        place(0,2) = -1
        place(2,2) = -1
        place(6,2) = -1
        """);
    String lines = "ma00;".repeat(12);
    clause("Terms", "THE TOWN is a text of at most 76 signs: LINES with ; between, each one of PLACES from 0 on",
        "town " + lines.substring(0, 59) + " = 12\n",
        "same town " + lines + "ma00;".repeat(3) + "m = -61\n",
        "same town " + lines + "ma00;".repeat(3) + "ma = -61\n",
        "same town " + lines + "ma00;".repeat(4) + " = -61\n",
        "town k;ga = 2\nplace(0,0) = 6\nplace(1,0) = 0\n",
        "same town k,ga = -2\nsame town kga = -2\nsame town k ga = -2\n");
    clause("Terms", "g and a letter (its next PLACE); d and two letters; f, a letter, a digit 1 .. 9 (SOAK); r, a letter, a digit 1 .. 9 (TOLL);"
        + " m, a letter, two digits 0 .. 9 (from, to; to no less than from); i, a letter, a digit 2 .. 9 (EACH); k.", """
        town ga = 1
        same town g1 = -2
        same town ga1 = -3
        town daa = 1
        same town da1 = -3
        same town daaa = -4
        same town fa0 = -3
        town fa1 = 1
        place(0,4) = 1
        town fa9 = 1
        place(0,4) = 9
        same town fa: = -3
        same town fa/ = -3
        same town fa10 = -4
        same town ra0 = -3
        town ra1 = 1
        place(0,4) = 1
        town ra9 = 1
        place(0,4) = 9
        same town ra99 = -4
        town ma00 = 1
        place(0,4) = 0
        town ma09 = 1
        place(0,4) = 9
        town ma55 = 1
        place(0,4) = 55
        town ma99 = 1
        place(0,4) = 99
        same town ma10 = -4
        same town ma54 = -4
        same town ma98 = -4
        same town ma0: = -4
        same town ma:0 = -3
        same town ma000 = -5
        same town ia0 = -3
        same town ia1 = -3
        town ia2 = 1
        place(0,4) = 2
        town ia9 = 1
        place(0,4) = 9
        town k = 1
        same town ka = -2
        """);
    clause("Terms", "Letters a .. l, of PLACES that are there (also behind it in the text).", """
        town gb;ga = 2
        town gl;k;k;k;k;k;k;k;k;k;k;k = 12
        same town gl;k;k;k;k;k;k;k;k;k;k = -2
        same town gm;k;k;k;k;k;k;k;k;k;k;k = -2
        same town g`;k = -2
        same town gA;k = -2
        same town dal;k;k;k;k;k;k;k;k;k;k = -3
        town dal;k;k;k;k;k;k;k;k;k;k;k = 12
        """);
  }

  private static void waters() {
    clause("Terms", "PLANKS: of each fork 0 or 1 (at first 0).", FORKS, """
        place(0,3) = 0
        place(1,3) = 0
        count(4) = 0
        plank(1,1) = 1
        place(0,3) = 0
        place(1,3) = 1
        """);
    clause("Terms", "THE WATER is a text of at most 40 digits 0 .. 3 (at first none: 1 always)", """
        flow(0) = 1
        flow(9999) = 1
        water 0 = 1
        flow(0) = 0
        water 3 = 1
        flow(0) = 3
        same water 4 = -1
        same water / = -1
        same water 03/ = -3
        water 0123012301230123012301230123012301230123 = 40
        same water 01230123012301230123012301230123012301230 = -41
        flow(390) = 3
        """);
    clause("Terms", "of each HOUR (10 MINUTES), one behind the other and again from the first on.", """
        water 0123 = 4
        flow(9) = 0
        flow(10) = 1
        flow(19) = 1
        flow(20) = 2
        flow(39) = 3
        flow(40) = 0
        flow(49) = 0
        flow(50) = 1
        flow(79) = 3
        flow(80) = 0
        water 0000000000000000000000000000000000000003 = 40
        flow(389) = 0
        flow(390) = 3
        flow(399) = 3
        flow(400) = 0
        flow(790) = 3
        water 01 = 2
        town gb;k = 2
        put(0,9,0,0) = 0
        comes(0) = 11 | 1 3
        run(20) = 1 | 1 0
        of(0,6) = 10
        put(0,9,0,0) = 1
        comes(1) = 11 | 1 3
        run(9) = 0 | 0 0
        comes(1) = 2 | 1 3
        """);
    clause("Terms", "MINUTES are counted (NOW, at first 0).", "count(2) = 0\nrun(1) = 0\ncount(2) = 1\nrun(99) = 0\ncount(2) = 100\n");
  }

  private static void things() {
    clause("Terms", "THINGS 0 .. (at most 6): at a PLACE, a BOAT 0 .. 99, COINS 0 .. 9, MARKS (PLACES it was at, bits; at first the one where it is)", """
        town gb;gc;k = 3
        put(0,0,0,0) = 0
        put(1,99,9,0) = 1
        of(0,3) = 1
        of(1,3) = 2
        run(1) = 1 | 2 1
        of(0,3) = 3
        of(1,3) = 6
        put(0,0,0,0) = 2
        put(0,0,0,0) = 3
        put(0,0,0,0) = 4
        put(2,0,0,0) = 5
        of(5,3) = 4
        same put(0,0,0,0) = -2
        """);
    clause("Terms", "SETTING OUT in a MINUTE (it is not carried ahead of it; at first NOW); on its way, LOST or HOME (in a kitchen).", """
        town gb;gc;k = 3
        put(0,9,0,2) = 0
        put(0,9,0,0) = 1
        run(2) = 1 | 2 0
        of(0,0) = 0
        of(0,1) = 9
        of(0,4) = 0
        run(1) = 0 | 0 0
        of(0,0) = 1
        run(1) = 1 | 1 0
        of(0,6) = 3
        """);
    clause("Terms", "A MINUTE, of THINGS on their way that have set out, by numbers: each makes as many STEPS as there is WATER, one behind the other.", """
        water 0123 = 4
        town gb;gc;gd;ge;gf;gg;k = 7
        put(0,99,0,0) = 0
        run(10) = 0 | 0 0
        of(0,0) = 0
        of(0,1) = 99
        run(1) = 0 | 0 0
        of(0,0) = 1
        run(9) = 1 | 1 0
        put(0,99,0,0) = 1
        run(1) = 0 | 0 0
        of(1,0) = 2
        of(1,3) = 7
        run(9) = 1 | 2 0
        put(0,99,0,0) = 2
        run(1) = 0 | 0 0
        of(2,0) = 3
        of(2,3) = 15
        of(2,1) = 96
        """);
    // Thing 0 makes all its STEPS first: in one MINUTE it has left fork b when thing 1 comes there.
    clause("Terms", "by numbers: each makes", """
        water 2 = 1
        rule n = 0
        town gb;dcd;k;k = 4
        put(0,9,0,0) = 0
        put(0,9,0,0) = 1
        put(1,9,0,0) = 2
        run(1) = 3 | 7 0
        of(0,0) = 3
        of(1,0) = 3
        of(2,0) = 2
        """);
  }

  private static void ruleTexts() {
    String forty = "-".repeat(39) + "p";
    clause("Terms", "THE RULE is a text of at most 40 signs (at first none: p).", FORK,
        "sail(0,9,0,0,1) = 1\nplank(0,1) = 1\nsail(0,9,0,0,2) = 1\n",
        "rule 1-p = 0\nsail(0,9,0,0,1) = 1\n",
        "rule " + forty + " = 0\nsail(0,9,0,0,2) = 1\n",
        "same rule -" + forty + " = -41\n");
    clause("Terms", "EXPRESSION: < > = bind least (two; 1 or 0; not one behind the other)",
        goes(true, "1+1<3", "3>1+1", "1+2=2+1", "2*3=3+3", "(1<2)=1", "(2<1)=0", "(2>1)=1", "(1>2)=0", "(2=2)=1", "(1=2)=0", "-1<0", "0>-1", "1>(1>1)"),
        goes(false, "1<1", "1>1", "2<1", "1>2", "1=2", "-1=1", "1<2-1", "(1<2)=2", "2>1+1", "3<1+2", "1=0+2", "1+1=1", "2*1>2*1", "1-1<0*9"),
        "same rule 1<2<3 = -4\nsame rule 1<2>3 = -4\nsame rule 1=2=3 = -4\nsame rule 1<2+3=4 = -6\nsame rule (1<2<3) = -5\n",
        "same rule 1<(2)<3 = -6\nsame rule 1<(2<3)<4 = -8\nsame rule (1<2)<3<4 = -8\nrule (1<2)<(3<4) = 0\n",
        "same rule <1 = -1\nsame rule 1< = -3\nsame rule 1<=2 = -3\nsame rule 1<>2 = -3\nsame rule 1== = -3\n");
    clause("Terms", "then + - (from the left)",
        goes(true, "9-3-2=4", "9-3+2=8", "1+2-3+4=4", "9-(3-2)=8"), goes(false, "9-3-2=8", "9-5-4", "1-1"), "same rule +1 = -1\nsame rule 1++1 = -3\nsame rule 1+ = -3\nrule 1--1 = 0\n");
    clause("Terms", "then * / (from the left; by 0: 0; cut to 0)",
        goes(true, "8/4/2=1", "8/4*2=4", "7/2*2=6", "2*7/4=3", "1+2*3=7", "9-4/2=7", "5/0=0", "0/0=0", "-5/0=0", "1+5/0=1", "5/(1-1)=0", "5/p=0",
            "7/2=3", "-7/2=-3", "7/-2=-3", "-7/-2=3", "9/10=0", "-9/10=0", "(0-9)/10=0", "999/999=1"),
        goes(false, "7/8", "-7/8", "5/0", "0/5", "0*9", "2*2-4"),
        "same rule *1 = -1\nsame rule /1 = -1\nsame rule 1** = -3\nsame rule 1*/2 = -3\nsame rule 1* = -3\n");
    clause("Terms", "then - ahead of a thing (any many)",
        goes(true, "-1", "--1=1", "---1=-1", "-----------------------------------1<0", "2*-3=-6", "6/-3=-2", "-2*3=-6", "2--3=5", "2---3=-1", "-(1+1)=-2", "--(1)=1", "-b=-50"),
        goes(false, "-0", "--0", "-p"), "same rule - = -2\nsame rule 1- = -3\nsame rule 1-- = -4\nsame rule -) = -2\n");
    clause("Terms", "things: a NUMBER of 1 to 3 digits",
        goes(true, "9", "99=90+9", "999=99*10+9", "000=0", "007=7", "100-99"), goes(false, "0", "00", "000"),
        "same rule 1000 = -4\nsame rule 0000 = -4\nsame rule 1+2345 = -6\nsame rule 1234+1 = -4\nsame rule (1)2 = -4\n");
    clause("Terms", "an EXPRESSION in ( ) (at most 4 in one another)",
        goes(true, "((((1))))", "((((1))))*((((1))))", "(((1+(2))))=3", "((1)+(2))*(3)=9", "(1<2)"), goes(false, "((((0))))", "(1)-(1)"),
        "same rule (((((1))))) = -5\nsame rule 1+(((((1))))) = -7\nsame rule ((((1))))+(((((1))))) = -15\nsame rule ((((1+(2))))) = -7\n",
        "same rule () = -2\nsame rule ( = -2\nsame rule (1 = -3\nsame rule ((1) = -5\nsame rule ) = -1\nsame rule 1) = -2\nsame rule (1)) = -4\nsame rule (1)(1) = -4\nsame rule 1(1) = -2\n");
  }

  private static void ruleValues() {
    clause("Terms", "and, of a THING at a fork: p its PLANK, m the MINUTE, w WATER in it, i the THING's number, b its BOAT, c its COINS, n how many others are at the fork, f the fork's PLACE.",
        goes(true, "p=0", "m=0", "w=1", "i=0", "b=50", "c=4", "n=0", "f=0"),
        "same rule a = -1\nsame rule pm = -2\nsame rule p1 = -2\nsame rule 1p = -2\nsame rule (p)p = -4\nsame rule P = -1\nsame rule 1 +1 = -2\n",
        // Thing 5, alone of six with BOAT 49 and 3 COINS at fork b in MINUTE 11, with WATER 2.
        "water 12 = 2\ntown gb;dcd;k;k = 4\nplank(1,1) = 1\nrun(10) = 0\n",
        "put(1,9,0,99) = 0\nput(1,9,0,99) = 1\nput(1,9,0,99) = 2\nput(0,9,0,99) = 3\nput(0,9,0,99) = 4\nput(0,50,3,1) = 5\n",
        "rule p=1 = 0\ncomes(5) = 2 | 3 11\nrule m=11 = 0\ncomes(5) = 2 | 3 11\nrule w=2 = 0\ncomes(5) = 2 | 3 11\nrule i=5 = 0\ncomes(5) = 2 | 3 11\n",
        "rule b=49 = 0\ncomes(5) = 2 | 3 11\nrule c=3 = 0\ncomes(5) = 2 | 3 11\nrule n=3 = 0\ncomes(5) = 2 | 3 11\nrule f=1 = 0\ncomes(5) = 2 | 3 11\n",
        "rule n=2 = 0\ncomes(5) = 2 | 2 7\nrule m=10 = 0\ncomes(5) = 2 | 2 7\nrule b=50 = 0\ncomes(5) = 2 | 2 7\nrule f = 0\ncomes(5) = 2 | 3 11\n");
    clause("Terms", "As ints.",
        goes(true, "999*999*999*3<0", "999*999*999*9>0", "512*512*512*16<0", "512*512*512*16/-1<0", "-(512*512*512*16)<0",
            "512*512*512*16-1>0", "512*512*512*8*4=0-0", "(512*512*512*16)/2<0", "512*512*512*16=-(512*512*512*16)", "1-512*512*512*16<0"),
        goes(false, "512*512*512*32", "999*999*999*3>0"));
    clause("Terms", "It goes to the second PLACE, if that is not 0.",
        goes(true, "1", "-1", "2", "999", "0-1", "512*512*512*16"), goes(false, "0", "-0", "1-1", "512*512*512*32", "1/2"));
  }

  private static void steps() {
    clause("Terms", "A STEP from: a kitchen: none (it is HOME as soon as it is there)", """
        water 3 = 1
        town gb;k;gb = 3
        put(0,9,0,0) = 0
        put(1,9,0,5) = 1
        of(1,4) = 1
        run(1) = 1 | 1 0
        of(0,0) = 1
        of(0,1) = 8
        of(0,6) = 0
        run(1) = 0 | 0 0
        of(0,1) = 8
        of(1,1) = 9
        """);
    clause("Terms", "a fish: none, and no more in this MINUTE, if the MINUTE is not divisible by EACH", """
        water 3 = 1
        town gb;ic2;gd;k;ib9;ib2 = 6
        put(0,9,0,0) = 0
        put(1,9,0,1) = 1
        put(0,9,0,1) = 2
        put(4,9,0,0) = 3
        put(4,9,0,1) = 4
        put(5,9,0,0) = 5
        run(1) = 3 | 41 0
        of(0,0) = 3
        of(5,6) = 0
        run(1) = 0 | 0 0
        of(1,0) = 1
        of(1,1) = 9
        of(2,0) = 1
        of(2,1) = 8
        of(4,0) = 4
        run(1) = 2 | 6 0
        of(2,1) = 6
        run(6) = 0 | 0 0
        of(4,0) = 4
        run(1) = 0 | 0 0
        of(4,0) = 1
        of(4,1) = 8
        run(1) = 1 | 16 0
        of(4,6) = 10
        """);
    clause("Terms", "a rat: if it has fewer COINS than TOLL, likewise none, else it pays TOLL", """
        water 3 = 1
        town rb3;rc1;k = 3
        put(0,9,2,0) = 0
        put(0,9,3,0) = 1
        put(0,9,4,0) = 2
        put(0,9,9,0) = 3
        put(1,9,0,0) = 4
        run(1) = 2 | 12 0
        of(0,0) = 0
        of(0,1) = 9
        of(0,2) = 2
        of(1,0) = 1
        of(1,1) = 8
        of(1,2) = 0
        of(2,2) = 0
        of(2,1) = 7
        of(3,2) = 5
        of(4,0) = 1
        run(99) = 0 | 0 0
        of(0,0) = 0
        give(0,1) = 3
        run(1) = 0 | 0 0
        of(0,0) = 1
        of(0,2) = 0
        """);
    clause("Terms", "a mill: if what is left of the MINUTE divided by 10 is from .. to, it is LOST there", """
        town mb24;k;mb00;mb99 = 4
        put(0,0,0,2) = 0
        put(0,9,0,1) = 1
        put(0,9,0,4) = 2
        put(0,9,0,5) = 3
        put(0,9,0,13) = 4
        put(0,9,0,11) = 5
        run(20) = 3 | 42 21
        of(0,0) = 0
        of(0,1) = 0
        of(0,3) = 1
        of(0,6) = 2
        of(1,6) = 1
        of(2,0) = 0
        of(2,1) = 9
        of(2,6) = 4
        of(3,6) = 5
        of(4,6) = 13
        of(5,6) = 11
        sail(2,9,0,0,1) = -2
        sail(2,9,0,1,1) = 2
        sail(2,9,0,9,1) = 10
        sail(2,9,0,10,1) = -2
        sail(3,9,0,8,1) = 9
        sail(3,9,0,9,1) = -2
        sail(3,9,0,10,1) = 11
        """);
    clause("Terms", "a fork: by THE RULE; else to the next.", """
        town dbc;ge;gf;gg;fb1;rb1;mb11;ib3 = 8
        place(0,1) = 1
        put(0,9,0,0) = 0
        put(1,9,0,0) = 1
        put(4,9,0,0) = 2
        put(5,9,1,0) = 3
        put(6,9,0,0) = 4
        put(7,9,0,0) = 5
        run(1) = 0 | 0 0
        of(0,0) = 1
        of(1,0) = 4
        of(2,0) = 1
        of(3,0) = 1
        of(4,0) = 1
        of(5,0) = 1
        undo() = 6
        rule i=0 = 0
        run(1) = 0 | 0 0
        of(0,0) = 2
        of(1,0) = 4
        of(2,0) = 1
        """);
    clause("Terms", "BOAT is 1 less with each STEP, and SOAK less besides for one from a fall; below 0 the THING is LOST at the PLACE to which it came (BOAT 0 then).", """
        town gb;gc;fd9;k;gd = 5
        put(4,1,0,0) = 0
        put(4,0,0,0) = 1
        put(2,10,0,0) = 2
        put(2,9,0,0) = 3
        put(2,5,0,0) = 4
        put(0,1,0,0) = 5
        run(1) = 2 | 5 26
        of(0,1) = 0
        of(1,0) = 3
        of(1,1) = 0
        of(1,3) = 24
        of(2,1) = 0
        of(3,0) = 3
        of(3,1) = 0
        of(4,1) = 0
        of(5,0) = 1
        of(5,1) = 0
        of(5,4) = 0
        run(1) = 0 | 0 32
        of(5,0) = 2
        of(5,3) = 7
        of(5,6) = 1
        run(9) = 0 | 0 0
        of(5,0) = 2
        water 3 = 1
        town gb;gc;k = 3
        put(0,0,0,0) = 0
        run(1) = 0 | 0 1
        of(0,0) = 1
        of(0,3) = 3
        """);
    clause("Terms", "NOW is 1 more.", "town = 0\nrun(1) = 0 | 0 0\ncount(2) = 1\nrun(0) = 0 | 0 0\ncount(2) = 1\n");
  }

  private static void rowsAndLooks() {
    clause("Terms", "ROW: numbers told last by a call that says so.", TOWN, """
        row(0) = throws
        put(0,9,0,0) = 0
        count(10) = 0
        where(0,1) = 1 | 0 8 0
        sail(0,9,0,0,3) = 3 | 0 8 0
        cork(0,0,3) = 1 | 0 8 0
        forget() = 1 | 0 8 0
        keep(0) = 1 | 0 8 0
        again(0) = 1 | 0 8 0
        plank(1,1) = 1 | 0 8 0
        undo() = 0 | 0 8 0
        give(0,1) = 1 | 0 8 0
        sheet(2,1,9,0) = 9 | 0 8 0
        flow(0) = 1 | 0 8 0
        town gb;k = 2 | 0 8 0
        water 1 = 1 | 0 8 0
        rule p = 0 | 0 8 0
        coins(0,9,1) = 0 | 1
        """);
    clause("Terms", "Sets are bits (of forks: by PLACES).", "town k;gc;dad;dab = 4\ncount(3) = 12\nplank(3,1) = 1\ncount(4) = 8\nways(2,9,0,0) = 3 | 0 8\n");
    clause("Terms", "Rows are compared from the first number on.", "town gc;gc;k = 3\nsoonest(9,0,2) = 1 | 0 0\n");
    clause("Terms", "Fractions are told in lowest terms, upper and lower number (0 by 1).", "water 0 = 1\ntown gb;k = 2\nput(0,9,0,0) = 0\n",
        "odds(0,10,5) = 0 | 1 2\nodds(0,10,4) = 0 | 2 5\nodds(0,10,7) = 0 | 7 10\nodds(0,10,0) = 0 | 0 1\nodds(0,20,0) = 0 | 0 1\nodds(0,60,10) = 0 | 1 1\nodds(0,20,5) = 0 | 3 4\n");
    String ahead = "What is asked of MINUTES to come looks on for 300 MINUTES at most (300 is the last that goes by).";
    clause("Terms", ahead, DRY, FORK, """
        put(0,9,0,0) = 0
        put(0,9,0,0) = 1
        where(0,300) = 0 | 0 9 0
        homes(300) = 0 | 0 3
        lost(300) = -2
        comes(0) = -3 | 0
        sail(0,9,0,0,1) = -2
        soonest(9,0,1) = -2
        basin(9,0,1) = 2 | 6 0
        boat(0,0,1) = -2
        coins(0,9,1) = -2
        waits(0,9,0,1) = 0 | -1 -1
        save(1) = -2
        steer(0,1) = -2
        ways(0,9,0,1) = 0 | -1 -1
        duel(0,9,0,1,1) = 0 | -1
        marks(9,0,3) = 0 | 0
        order(0,1) = -2
        cork(0,0,-1) = 1
        maps() = 2 | 0 0 0
        next(0) = 0 | 2
        next(1) = 0 | 1
        cork(0,1,-1) = 2
        maps() = 0 | -1 1 1
        """);
    clause("Terms", ahead, DRY, FORK, """
        put(0,9,0,1) = 0
        put(0,9,0,1) = 1
        run(1) = 0 | 0 0
        where(0,299) = 0 | 0 9 0
        where(0,300) = 1 | 1 8 0
        homes(299) = 0 | 0 3
        homes(300) = 3 | 0 0
        comes(0) = 300 | 1 3
        sail(0,9,0,0,1) = 300
        sail(0,9,0,99,1) = 300
        soonest(9,0,1) = 300 | 0 0
        basin(9,0,1) = 3 | 7 0
        boat(0,0,1) = 1 | 300
        coins(0,9,1) = 0 | 300
        waits(0,9,0,1) = 1073741823 | 29 271
        save(3) = 0 | 0 300
        steer(0,2) = 1 | 1 300
        ways(0,9,0,1) = 1 | 0 0
        duel(0,9,0,2,1) = 1 | 0
        marks(9,0,3) = 10 | 0 0 1
        order(0,1) = 0 | 0 0 1
        cork(0,1,1) = 1
        maps() = 1 | 0 0 1
        """);
    clause("Terms", ahead, DRY, """
        town mb00;k;gc = 3
        put(0,9,0,0) = 0
        lost(300) = -2
        comes(0) = -3 | 0
        basin(9,0,1) = 2 | 2 0
        round(2) = -2
        run(1) = 0 | 0 0
        lost(299) = -2
        lost(300) = 0 | 300 0
        comes(0) = -2 | 0
        basin(9,0,1) = 2 | 2 1
        round(2) = 300 | -1
        run(1) = 0 | 0 0
        round(2) = 299 | 1
        """);
  }

  private static void refusals() {
    clause("Terms", "Refused calls answer NONE, or false, and change nothing but THE TEXT, which a call that reads it empties.", "water 12 = 2\nrule 1-p = 0\n", TOWN, """
        put(0,9,2,3) = 0
        put(0,9,2,3) = 1
        plank(1,1) = 1
        run(1) = 0 | 0 0
        cork(0,0,3) = 1
        homes(0) = 0 | 0 3
        same town x = -1
        same town gz = -2
        same town ga;x = -4
        same water 4 = -1
        same water 1x = -2
        same rule x = -1
        same rule 1+ = -3
        same day x = -1
        same day n1;x = -4
        same plank(0,1) = 0
        same put(0,100,0,0) = -1
        same give(0,0) = -1
        same run(100) = -1
        same cork(9,0,3) = -1
        same keep(3) = 0
        same again(0) = 0
        same save(4) = -1
        same homes(301) = -1
        text abcd
        same put(0,100,0,0) = -1
        same end(5) = 0
        count(11) = 4
        """);
  }

  // ---- promises 1 to 6: texts

  private static void textCalls() {
    clause("1", "No PLACES, no THINGS.", """
        count(0) = 0
        count(1) = 0
        count(2) = 0
        count(3) = 0
        count(4) = 0
        count(5) = 0
        count(6) = 0
        count(7) = 0
        count(8) = 0
        count(9) = 0
        count(10) = 0
        count(11) = 0
        place(0,0) = throws
        of(0,0) = throws
        row(0) = throws
        same undo() = -1
        same again(0) = 0
        same put(0,0,0,0) = -1
        same plank(0,0) = 0
        same comes(0) = -1
        same sail(0,0,0,0,0) = -1
        same round(0) = -1
        same next(0) = -1
        same cork(0,0,-1) = -1
        homes(300) = 0 | 0 0
        same lost(300) = -2
        save(0) = 0 | 0 0
        maps() = 1 | 0 0 0
        marks(0,0,0) = 0 | 0
        run(99) = 0 | 0 0
        sheet(2,6,9,9) = 0
        """);
    clause("2", "Four signs come behind THE TEXT, of v the highest byte first: how many it has.",
        "sign(" + signs("gb;k") + ") = 4\nsign(" + signs(";gax") + ") = 8\nend(7) = 1\nsign(" + signs(";kkk") + ") = 11\nend(9) = 1\ntown() = 4\n",
        "place(0,1) = 1\nplace(1,0) = 6\nplace(2,1) = 0\nplace(3,0) = 6\n",
        "sign(-1) = 4\ntown() = -1\nsign(MIN) = 4\ntown() = -1\nsign(0) = 4\nend(1) = 1\ntown() = -1\ncount(11) = 0\n");
    StringBuilder full = new StringBuilder();
    for (int n = 4; n <= 80; n += 4) {
      full.append("sign(").append(n).append(") = ").append(n).append('\n');
    }
    clause("2", "Refused: there would be more than 80.", full.toString(), """
        same sign(1) = -1
        same sign(-1) = -1
        count(11) = 80
        end(79) = 1
        same sign(1) = -1
        end(77) = 1
        same sign(1) = -1
        count(11) = 77
        end(76) = 1
        sign(1) = 80
        """);
    clause("3", "THE TEXT has its first n signs alone: true", "end(0) = 1\ntext ga;k\nend(4) = 1\ncount(11) = 4\nend(2) = 1\ncount(11) = 2\ntown() = 1\ntext k\nend(0) = 1\ntown() = 0\n");
    clause("3", "false if it has not so many, or n is below 0.", "end(1) = 0\nend(-1) = 0\ntext ga;\nend(4) = 0\nend(-1) = 0\nend(MIN) = 0\nend(MAX) = 0\ncount(11) = 3\nend(3) = 1\nend(2) = 1\nend(3) = 0\ntown() = 1\n");
    clause("4", "THE TEXT is THE TOWN anew (an empty one: no PLACES): how many PLACES", "town ga;k = 2\ntown = 0\ncount(0) = 0\nplace(0,0) = throws\ncount(3) = 0\n",
        FORK, "town k = 1\ncount(3) = 0\nplace(0,1) = -1\nplace(1,0) = throws\n");
    clause("4", "there are no THINGS, PLANKS 0, NOW 0; no corks were told; nothing can be undone, nothing is kept.", FORK, """
        put(0,9,0,0) = 0
        plank(0,1) = 1
        run(1) = 1 | 1 0
        cork(0,0,1) = 1
        keep(0) = 1
        keep(1) = 1
        keep(2) = 1
        town dbc;k;k = 3
        count(1) = 0
        of(0,0) = throws
        count(2) = 0
        count(4) = 0
        count(6) = 0
        count(8) = 0
        count(9) = 0
        place(0,3) = 0
        same undo() = -1
        same again(0) = 0
        same again(1) = 0
        same again(2) = 0
        forget() = 0
        """);
    townFaults();
    waterFaults();
    ruleFaults();
  }

  /** Four signs as sign() takes them. */
  private static int signs(String text) {
    return text.charAt(0) << 24 | text.charAt(1) << 16 | text.charAt(2) << 8 | text.charAt(3);
  }

  private static void townFaults() {
    clause("4", "-1 - p: the sign at p can't stand there (its end, if it ends too early;", FORK, """
        same town x = -1
        same town ; = -1
        same town 1 = -1
        same town G = -1
        same town g = -2
        same town d = -2
        same town da = -3
        same town f = -2
        same town fa = -3
        same town r = -2
        same town ra = -3
        same town m = -2
        same town ma = -3
        same town ma0 = -4
        same town i = -2
        same town ia = -3
        same town k; = -3
        same town k;g = -4
        same town k;; = -3
        same town kk = -2
        same town k;ga;da = -8
        same town k;ga;d;a = -7
        same town k;ga;f0 = -7
        """);
    String longest = "ma00;".repeat(16);
    clause("4", "76, if it has more and the first 76 could go on or end;", FORK,
        // Twelve LINES have 59 signs at most: a thirteenth is met ahead of the 76.
        "same town " + longest.substring(0, 76) + " = -61\n", "same town " + longest.substring(0, 77) + " = -61\n", "same town " + longest + " = -61\n",
        "same town x" + longest.substring(0, 78) + " = -1\n", "same town " + longest.substring(0, 58) + "x" + longest.substring(0, 20) + " = -59\n",
        "town " + longest.substring(0, 59) + " = 12\n");
    clause("4", "the first sign of a thirteenth LINE;", FORK,
        "same town " + "k;".repeat(12) + "k = -25\n", "same town " + "k;".repeat(12) + "x = -25\n", "same town " + "k;".repeat(12) + "; = -25\n",
        "same town " + "k;".repeat(12) + " = -25\n", "same town " + "k;".repeat(12) + "ga;k;x = -25\n", "same town " + "gm;".repeat(12) + "k = -2\n",
        "same town " + "gl;".repeat(12) + "k = -37\n", "town " + "k;".repeat(11) + "k = 12\n");
    clause("4", "else, a letter of a PLACE that is not there: the first such).", FORK, """
        same town gb = -2
        same town dab = -3
        same town dba = -2
        same town dcb;k = -2
        same town dbc;k = -3
        same town gc;gd;k = -5
        same town gd;gc;k = -2
        same town k;ge;gf;ge = -4
        same town k;ge;gf;x = -9
        same town gl;g = -5
        same town fl1;k = -2
        same town rl1;k = -2
        same town ml00;k = -2
        same town il2;k = -2
        """);
  }

  private static void waterFaults() {
    String forty = "0123".repeat(10);
    clause("5", "THE TEXT is THE WATER (an empty one: none): how many digits.", """
        water 0 = 1
        flow(0) = 0
        water = 0
        flow(0) = 1
        flow(9999) = 1
        water 00 = 2
        water 3210 = 4
        flow(0) = 3
        """, "water " + forty + " = 40\n");
    clause("5", "-1 - p: the sign at p can't stand there (40, if it has more and the first 40 could go on or end).", "water 32 = 2\n", """
        same water x = -1
        same water 4 = -1
        same water 9 = -1
        same water 0x = -2
        same water 01234 = -5
        same water 1;1 = -2
        """,
        "same water " + forty + "0 = -41\n", "same water " + forty + "x = -41\n", "same water " + forty + "4 = -41\n", "same water " + forty + forty + " = -41\n",
        "same water " + forty.substring(0, 39) + "x0 = -40\n", "same water " + forty.substring(0, 39) + "x = -40\n", "same water x" + forty + " = -1\n",
        "flow(0) = 3\nflow(10) = 2\n");
  }

  private static void ruleFaults() {
    clause("6", "THE TEXT is THE RULE (an empty one: none): 0.", FORK, """
        rule 1 = 0
        sail(0,9,0,0,2) = 1
        rule = 0
        sail(0,9,0,0,1) = 1
        plank(0,1) = 1
        sail(0,9,0,0,2) = 1
        """);
    String sum = "p+".repeat(20);
    clause("6", "-1 - p: the sign at p can't stand there (its end, if it ends too early; 40, if it has more and the first 40 could go on or end).", FORK, """
        rule 1 = 0
        same rule x = -1
        same rule  p = -1
        same rule - = -2
        same rule 1+ = -3
        same rule 1- = -3
        same rule 1* = -3
        same rule 1/ = -3
        same rule 1= = -3
        same rule ( = -2
        same rule (1 = -3
        same rule (1+ = -4
        same rule 1+(2 = -5
        same rule 1;2 = -2
        same rule 1.2 = -2
        """,
        "same rule " + sum + " = -41\n", "same rule " + sum + "p = -41\n", "same rule " + sum + "x = -41\n", "same rule " + sum + sum + " = -41\n",
        "same rule " + sum.substring(0, 38) + "pp = -40\n", "same rule " + sum.substring(0, 38) + "ppp = -40\n", "same rule " + sum.substring(0, 38) + "++p = -39\n",
        "same rule " + sum.substring(0, 38) + "(p = -41\n", "same rule " + sum.substring(0, 38) + "(p) = -41\n",
        "same rule " + sum.substring(0, 38) + "123 = -41\n", "same rule " + sum.substring(0, 36) + "1234 = -40\n", "same rule x" + sum + " = -1\n",
        "rule " + sum.substring(0, 38) + "12 = 0\nsail(0,9,0,0,2) = 1\n",
        // Nothing of a refused text is left in the next one.
        "same rule 9*(8+(7- = -9\nrule 0 = 0\nsail(0,9,0,0,1) = 1\nsame rule 1<( = -4\nrule 1<2 = 0\nsail(0,9,0,0,2) = 1\nsame rule 123+ = -5\nrule 000 = 0\nsail(0,9,0,0,1) = 1\n");
  }

  // ---- promises 7 to 13

  private static void townCalls() {
    clause("7", "Of a PLACE, what 0: kind (0 g, 1 d, 2 f, 3 r, 4 m, 5 i, 6 k)", """
        town k;ia2;ma00;ra1;fa1;daa;ga = 7
        place(0,0) = 6
        place(1,0) = 5
        place(2,0) = 4
        place(3,0) = 3
        place(4,0) = 2
        place(5,0) = 1
        place(6,0) = 0
        """);
    clause("7", "1: its next PLACE (NONE), 2: the second one of a fork (NONE), 3: PLANK (0 but at forks), 4: SOAK, TOLL, EACH, or ten times from, and to (0 of others),"
        + " 5: THINGS on their way that are there (bits).", """
        town gb;dac;fb9;rb8;mb37;ib6;k = 7
        place(0,0) = 0
        place(1,0) = 1
        place(2,0) = 2
        place(3,0) = 3
        place(4,0) = 4
        place(5,0) = 5
        place(6,0) = 6
        place(0,1) = 1
        place(6,1) = -1
        place(1,2) = 2
        place(0,2) = -1
        place(3,2) = -1
        place(6,2) = -1
        plank(1,1) = 1
        place(0,3) = 0
        place(1,3) = 1
        place(2,3) = 0
        place(6,3) = 0
        place(0,4) = 0
        place(1,4) = 0
        place(2,4) = 9
        place(3,4) = 8
        place(4,4) = 37
        place(5,4) = 6
        place(6,4) = 0
        place(2,5) = 0
        put(2,0,0,0) = 0
        put(6,0,0,0) = 1
        put(1,9,0,99) = 2
        put(1,9,0,50) = 3
        place(2,5) = 1
        place(6,5) = 0
        place(1,5) = 12
        run(1) = 0 | 0 1
        place(1,5) = 12
        place(2,5) = 0
        """);
    clause("7", "NoSuchElementException: none such, another what.", "place(0,0) = throws\n", TOWN, outside("place", "throws", "0 0", "-1 6 12 32", "-1 6 7 32"), "place(5,5) = 0\n");
    clause("8", "Of a THING, what 0: PLACE, 1: BOAT, 2: COINS, 3: MARKS", TOWN, """
        put(4,20,7,0) = 0
        put(2,30,1,0) = 1
        put(0,40,0,3) = 2
        of(0,0) = 4
        of(0,1) = 20
        of(0,2) = 7
        of(0,3) = 16
        of(1,0) = 2
        of(1,1) = 30
        of(1,2) = 1
        of(1,3) = 4
        run(1) = 2 | 3 0
        of(0,0) = 5
        of(0,1) = 19
        of(0,2) = 4
        of(0,3) = 48
        of(1,0) = 3
        of(1,1) = 27
        of(1,2) = 1
        of(1,3) = 12
        of(2,0) = 0
        of(2,1) = 40
        of(2,2) = 0
        of(2,3) = 1
        """);
    clause("8", "4: 0 on its way, 1 HOME, 2 LOST, 5: MINUTES till it sets out (0: it has, or does now), 6: the MINUTE in which it was LOST or came HOME (NONE).", """
        town gb;k;mb00 = 3
        put(0,9,0,2) = 0
        put(0,9,0,0) = 1
        put(2,9,0,0) = 2
        put(1,9,0,0) = 3
        of(0,5) = 2
        of(1,5) = 0
        of(0,6) = -1
        of(2,6) = -1
        of(3,6) = 0
        of(0,4) = 0
        of(3,4) = 1
        run(1) = 1 | 2 4
        of(0,5) = 1
        of(1,4) = 1
        of(1,5) = 0
        of(1,6) = 0
        of(2,4) = 2
        of(2,6) = 0
        run(1) = 0 | 0 0
        of(0,5) = 0
        of(0,6) = -1
        run(1) = 1 | 1 0
        of(0,5) = 0
        of(0,6) = 2
        put(1,9,0,2) = 4
        of(4,5) = 2
        of(4,6) = 3
        run(1) = 0 | 0 0
        of(4,5) = 1
        """);
    clause("8", "NoSuchElementException: none such, another what.", "of(0,0) = throws\n", TOWN, "of(0,0) = throws\nput(0,9,0,0) = 0\nput(0,9,0,0) = 1\n",
        outside("of", "throws", "0 0", "-1 2 6 32", "-1 7 8 32"), "undo() = 1\nof(1,0) = throws\n");
    clause("9", "WATER in a MINUTE (0 .. 9999). NONE: another one.", "flow(0) = 1\n", refused("flow", "0", "-1 10000"), "water 0123 = 4\nflow(0) = 0\nflow(9999) = 3\nflow(9989) = 2\n",
        refused("flow", "0", "-1 10000 10030"));
    clause("10", "PLANK of a fork becomes v (0, 1): true. Refused: others.", FORKS, """
        plank(0,1) = 1
        count(4) = 1
        plank(0,1) = 1
        count(4) = 1
        plank(1,1) = 1
        count(4) = 3
        plank(0,0) = 1
        count(4) = 2
        plank(0,0) = 1
        count(4) = 2
        """, outside("plank", "0", "0 1", "-1 2 3 4 5 12 32 33", "-1 2 3"));
  }

  private static void sheets() {
    String three = TOWN + "put(0,9,0,0) = 0\nput(0,9,0,0) = 1\nput(3,9,0,0) = 2\n";
    clause("11", "BOATS of THINGS 0, 1, .., as a sheet tells them: bytes (kind 0), shorts (1), ints (2) of n entries f, f + step, ..", three, """
        sheet(0,3,10,20) = 90
        of(0,1) = 10
        of(1,1) = 30
        of(2,1) = 50
        sheet(1,3,50,-20) = 90
        of(0,1) = 50
        of(2,1) = 10
        sheet(2,3,7,0) = 21
        of(2,1) = 7
        sheet(2,6,8,0) = 24
        put(0,3,0,0) = 3
        of(3,1) = 3
        town mb00;k = 2
        put(0,9,0,0) = 0
        put(1,9,0,0) = 1
        run(1) = 0 | 0 1
        sheet(2,2,20,1) = 41
        of(0,1) = 20
        of(1,1) = 21
        of(0,4) = 2
        of(1,4) = 1
        """);
    clause("11", "(of bytes, shorts the lowest bits, with their sign; put to 0 .. 99)", three, """
        sheet(0,3,127,1) = 99
        of(0,1) = 99
        of(1,1) = 0
        of(2,1) = 0
        sheet(0,3,255,1) = 1
        of(0,1) = 0
        of(1,1) = 0
        of(2,1) = 1
        sheet(0,3,-256,1) = 3
        sheet(0,3,354,1) = 296
        of(0,1) = 98
        of(1,1) = 99
        of(2,1) = 99
        sheet(1,3,32767,1) = 99
        of(0,1) = 99
        of(1,1) = 0
        sheet(1,3,65535,1) = 1
        sheet(1,3,65634,1) = 296
        sheet(1,3,128,0) = 297
        sheet(2,3,32768,0) = 297
        sheet(2,3,65536,0) = 297
        sheet(2,3,98,1) = 296
        sheet(2,3,-1,1) = 1
        sheet(2,3,MAX,1) = 99
        of(0,1) = 99
        of(1,1) = 0
        sheet(2,3,MIN,-1) = 198
        of(0,1) = 0
        of(1,1) = 99
        sheet(2,3,MIN,MIN) = 0
        sheet(0,3,MIN,MAX) = 0
        """);
    clause("11", "or a missing one (3): those behind it are 0: the sum of all.", three, """
        sheet(2,3,9,0) = 27
        sheet(2,2,5,0) = 10
        of(0,1) = 5
        of(1,1) = 5
        of(2,1) = 0
        sheet(2,3,9,0) = 27
        sheet(0,1,5,0) = 5
        of(1,1) = 0
        sheet(1,0,5,0) = 0
        of(0,1) = 0
        """);
    clause("11", "-2: n below 0 (of kinds 0 .. 2; nothing changes); -3: missing (all 0).", three, """
        same sheet(0,-1,5,0) = -2
        same sheet(1,-1,5,0) = -2
        same sheet(2,-1,5,0) = -2
        same sheet(2,MIN,5,0) = -2
        of(0,1) = 9
        sheet(3,3,5,5) = -3
        of(0,1) = 0
        of(1,1) = 0
        of(2,1) = 0
        sheet(2,3,9,0) = 27
        sheet(3,0,5,5) = -3
        of(2,1) = 0
        sheet(2,3,9,0) = 27
        sheet(3,-1,5,5) = -3
        of(2,1) = 0
        sheet(2,3,9,0) = 27
        sheet(3,MIN,5,5) = -3
        of(2,1) = 0
        count(8) = 3
        """);
    clause("11", "NONE: another kind, n above 6 (these first).", three, refused("sheet", "0 3 5 5", "-1 4", "any", "any", "any"), """
        same sheet(0,7,5,5) = -1
        same sheet(1,7,5,5) = -1
        same sheet(2,7,5,5) = -1
        same sheet(2,MAX,5,5) = -1
        same sheet(3,7,0,0) = -1
        same sheet(4,-1,0,0) = -1
        same sheet(-1,-1,0,0) = -1
        same sheet(4,7,0,0) = -1
        sheet(2,6,1,0) = 3
        """);
  }

  private static void thingCalls() {
    clause("12", "A THING comes: at a PLACE, BOAT 0 .. 99, COINS 0 .. 9, setting out in w MINUTES (0 .. 99): its number.", TOWN, """
        put(0,0,0,0) = 0
        put(5,99,9,99) = 1
        put(4,99,9,99) = 2
        of(0,0) = 0
        of(0,1) = 0
        of(0,2) = 0
        of(0,5) = 0
        of(2,0) = 4
        of(2,1) = 99
        of(2,2) = 9
        of(2,5) = 99
        """);
    clause("12", "-2: 6 are there; NONE: others.", TOWN, refused("put", "0 9 0 0", "-1 6 12 32", "-1 100", "-1 10", "-1 100"), """
        put(0,9,0,0) = 0
        put(3,9,0,0) = 1
        put(2,0,0,0) = 2
        put(0,9,0,0) = 3
        put(0,9,0,0) = 4
        put(0,9,0,0) = 5
        same put(0,9,0,0) = -2
        same put(3,9,0,0) = -2
        same put(6,9,0,0) = -1
        same put(0,100,0,0) = -1
        run(99) = 4
        same put(0,9,0,0) = -2
        undo() = 6
        undo() = 5
        put(0,9,0,0) = 5
        """);
    clause("12", "(In a kitchen it is HOME at once, in MINUTE NOW.)", TOWN, """
        put(3,0,0,0) = 0
        of(0,4) = 1
        of(0,6) = 0
        of(0,3) = 8
        run(7) = 0 | 0 0
        put(5,99,9,99) = 1
        of(1,4) = 1
        of(1,6) = 7
        count(5) = 0
        count(6) = 3
        comes(1) = 0 | 5 32
        """);
    clause("13", "COINS of a THING on its way are n (1 .. 9) more, 9 at most: how many it has. Refused: others.", TOWN, """
        put(0,9,0,5) = 0
        put(3,9,0,0) = 1
        put(2,0,0,0) = 2
        give(2,1) = 1
        run(1) = 0 | 0 4
        give(0,1) = 1
        give(0,7) = 8
        give(0,1) = 9
        give(0,9) = 9
        of(0,2) = 9
        count(8) = 9
        undo() = 8
        undo() = 7
        of(0,2) = 8
        give(0,9) = 9
        """,
        refused("give", "0 1", "-1 1 2 3 6 32", "-1 0 10"));
    clause("14", "n MINUTES (0 .. 99) go by: how many THINGS came HOME; the ROW: they (bits), those that were LOST in them (bits). NONE: another n.", """
        town gb;k = 2
        put(0,9,0,0) = 0
        put(0,0,0,0) = 1
        put(0,9,0,98) = 2
        put(0,0,0,99) = 3
        put(1,0,0,0) = 4
        run(0) = 0 | 0 0
        count(2) = 0
        run(99) = 2 | 5 2
        count(2) = 99
        run(1) = 0 | 0 8
        run(99) = 0 | 0 0
        """, refused("run", "0", "-1 100"), "count(2) = 199\n");
  }

  // ---- promises 15 and 16

  private static void dayTexts() {
    clause("15", "THE TEXT tells A DAY (an empty one: nothing), ACTS with ; between", TOWN, """
        homes(0) = 0 | 0 0
        coins(0,9,3) = 0 | 3
        day = 0 | 0 0
        count(8) = 0
        day n1 = 1 | 0 0
        day n1;n1 = 2 | 0 0
        count(2) = 3
        same day n1n1 = -3
        same day n1,n1 = -3
        same day ;n1 = -1
        same day n1; = -4
        same day n1;;n1 = -4
        """);
    clause("15", "t, a letter (a PLACE), a number (1 or 2 digits; BOAT), perhaps + and a digit (COINS, else 0): put(), setting out now;", TOWN, """
        day ta0 = 1 | 0 0
        of(0,1) = 0
        of(0,2) = 0
        of(0,5) = 0
        day tb99+9;tb09+0 = 2 | 0 0
        of(1,0) = 1
        of(1,1) = 99
        of(1,2) = 9
        of(2,1) = 9
        of(2,2) = 0
        same day ta = -3
        same day tax = -3
        same day ta+1 = -3
        same day ta-1 = -3
        same day ta100 = -5
        same day ta9+ = -5
        same day ta9+x = -5
        same day ta9+10 = -6
        same day ta9+-1 = -5
        same day t9 = -2
        """);
    clause("15", "p and a letter: PLANK of that fork is turned; n and a number (1 or 2 digits): so many MINUTES; c, a digit (a THING), a digit 1 .. 9: give()", TOWN, """
        day pb = 1 | 0 0
        count(4) = 2
        day pb = 1 | 0 0
        count(4) = 0
        day pb;pb;pb = 3 | 0 0
        count(4) = 2
        day n0 = 1 | 0 0
        count(2) = 0
        day n00;n9;n99;n01 = 4 | 0 0
        count(2) = 109
        day ta9;c01;c09 = 3 | 0 0
        of(0,2) = 9
        same day p = -2
        same day p1 = -2
        same day pbb = -3
        same day n = -2
        same day nx = -2
        same day n-1 = -2
        same day n100 = -4
        same day c = -2
        same day cx = -2
        same day c0 = -3
        same day c00 = -3
        same day c0x = -3
        same day c011 = -4
        """);
    String many = "n1;".repeat(20);
    clause("15", "-1 - p: the sign at p can't stand there (its end, if it ends too early; 60, if it has more and the first 60 could go on or end; a letter that is not a .. l); nothing is done then.",
        TOWN, "put(0,9,0,0) = 0\n",
        "same day " + many + " = -61\n", "same day " + many + "n1 = -61\n", "same day " + many + "x = -61\n", "same day " + many.substring(0, 59) + "1; = -61\n",
        "same day " + many.substring(0, 59) + "1x = -61\n", "same day " + many.substring(0, 59) + "1n1;n1;n1;n1;n1;n1;n = -61\n", "same day " + many.substring(0, 57) + "nx;n1 = -59\n",
        "same day " + many.substring(0, 57) + "n; = -59\n", "same day " + many.substring(0, 58) + "2n1 = -60\n", "same day n1;" + many.substring(0, 57) + "x = -61\n",
        "same day " + many.substring(0, 58) + "1x = -60\n", """
        same day tm9 = -2
        same day pm = -2
        same day t`9 = -2
        same day tA9 = -2
        same day n1;tz9;x = -5
        same day n1;pz = -5
        same day N1 = -1
        same day n1;pb;ta9;x = -11
        count(2) = 0
        """, "day " + many.substring(0, 59) + " = 20 | 0 1\n", "day " + many.substring(0, 59) + "0 = 20 | 0 0\n", "count(2) = 49\n");
  }

  private static void dayActs() {
    clause("15", "they are done one by one, till one can't be: how many were done; the ROW: 1 if one could not be, else 0; how many came HOME in MINUTES.", TOWN, """
        day ta9;td9;n3 = 3 | 0 1
        count(6) = 3
        day tg9 = 0 | 1 0
        day tl9 = 0 | 1 0
        day pa = 0 | 1 0
        day pd = 0 | 1 0
        day pg = 0 | 1 0
        day pl = 0 | 1 0
        day c01 = 0 | 1 0
        day c21 = 0 | 1 0
        day c91 = 0 | 1 0
        count(8) = 1
        day ta9;n1;pa;n1 = 2 | 1 0
        count(2) = 4
        of(2,0) = 1
        day n9;c21;n1 = 1 | 1 1
        count(2) = 13
        day ta0;ta9;ta9;ta9;n9 = 3 | 1 0
        count(1) = 6
        count(2) = 13
        day n9;tg1 = 1 | 1 2
        count(7) = 8
        day c31 = 0 | 1 0
        """);
  }

  private static void undoing() {
    clause("16", "The latest plank(), put(), give(), run() or day() (of 15 that are kept, the latest ones; such as were not refused; run() of 1 and more; day() of which one ACT was done, as one)"
        + " is undone (THINGS, PLANKS, NOW are as ahead of it): how many are left that can be.", TOWN, """
        put(0,9,0,0) = 0
        plank(1,1) = 1
        give(0,3) = 3
        run(1) = 0 | 0 0
        day n1;pb;pb;ta1;pa = 4 | 1 0
        run(0) = 0 | 0 0
        day = 0 | 0 0
        day pa = 0 | 1 0
        day x = -1
        run(100) = -1
        run(-1) = -1
        plank(0,1) = 0
        put(0,100,0,0) = -1
        give(9,1) = -1
        count(8) = 5
        undo() = 4
        count(2) = 1
        count(1) = 1
        undo() = 3
        count(2) = 0
        of(0,0) = 0
        of(0,1) = 9
        of(0,3) = 1
        undo() = 2
        of(0,2) = 0
        undo() = 1
        count(4) = 0
        undo() = 0
        count(1) = 0
        same undo() = -1
        """);
    StringBuilder many = new StringBuilder(TOWN);
    for (int k = 1; k <= 15; k++) {
      many.append("run(1) = 0 | 0 0\ncount(8) = ").append(k).append('\n');
    }
    many.append("run(1) = 0\ncount(8) = 15\nrun(1) = 0\ncount(8) = 15\n");
    for (int k = 14; k >= 0; k--) {
      many.append("undo() = ").append(k).append("\ncount(2) = ").append(k + 2).append('\n');
    }
    clause("16", "of 15 that are kept, the latest ones", many.toString(), "same undo() = -1\ncount(2) = 2\n");
    // Those that answer -2 have done nothing that could be undone; what a fork's PLANK was already can be.
    clause("16", "such as were not refused", FORK, """
        put(0,9,0,0) = 0
        put(0,9,0,0) = 1
        put(0,9,0,0) = 2
        put(0,9,0,0) = 3
        put(0,9,0,0) = 4
        put(0,9,0,0) = 5
        put(0,9,0,0) = -2
        count(8) = 6
        plank(0,0) = 1
        count(8) = 7
        day n0 = 1 | 0 0
        count(8) = 8
        sheet(2,6,5,0) = 30
        count(8) = 8
        keep(0) = 1
        count(8) = 8
        """);
    clause("16", "Refused: none.", "same undo() = -1\n", TOWN, "same undo() = -1\nrun(1) = 0\nundo() = 0\nsame undo() = -1\n");
    clause("16", "(town() and again() forget them, if they are not refused.)", TOWN, """
        run(1) = 0 | 0 0
        keep(0) = 1
        same town x = -1
        same again(1) = 0
        same again(3) = 0
        count(8) = 1
        again(0) = 1
        count(8) = 0
        same undo() = -1
        run(1) = 0 | 0 0
        town k = 1
        count(8) = 0
        same undo() = -1
        """);
  }

  // ---- promises 17 to 20

  private static void whatWillBe() {
    String three = "town gb;gc;k;mc00 = 4\nput(0,9,1,1) = 0\nput(0,1,0,0) = 1\nput(2,5,5,0) = 2\n";
    clause("17", "Where a THING is in n MINUTES (0 .. 300): its PLACE; the ROW: 0 on its way, 1 HOME, 2 LOST, BOAT, COINS then. NONE: others.", three, """
        quiet where(0,0) = 0 | 0 9 1
        quiet where(0,1) = 0 | 0 9 1
        quiet where(0,2) = 1 | 0 8 1
        quiet where(0,3) = 2 | 1 7 1
        quiet where(0,300) = 2 | 1 7 1
        quiet where(1,1) = 1 | 0 0 0
        quiet where(1,2) = 2 | 2 0 0
        quiet where(1,300) = 2 | 2 0 0
        quiet where(2,0) = 2 | 1 5 5
        quiet where(2,300) = 2 | 1 5 5
        """, refused("where", "0 5", "-1 3 6 32", "-1 301"));
    clause("18", "After how many MINUTES (0: it is) a THING is HOME; the ROW: the kitchen, its MARKS then.", three, """
        quiet comes(0) = 3 | 2 7
        quiet comes(2) = 0 | 2 4
        run(3) = 1 | 1 2
        quiet comes(0) = 0 | 2 7
        """);
    clause("18", "-2: it is LOST, or will be (the ROW: the PLACE where it is then), -3: neither in 300 MINUTES (the ROW: its PLACE behind them).", three, """
        put(3,9,0,0) = 3
        quiet comes(1) = -2 | 2
        quiet comes(3) = -2 | 3
        run(1) = 0 | 0 8
        quiet comes(3) = -2 | 3
        quiet comes(1) = -2 | 2
        town gb;rb1 = 2
        put(0,9,0,0) = 0
        quiet comes(0) = -3 | 1
        water 0 = 1
        quiet comes(0) = -3 | 0
        """);
    clause("18", "NONE: none such.", "same comes(0) = -1\n", three, refused("comes", "0", "-1 3 6 32"));
    clause("19", "The first THING that is LOST in the next n MINUTES (0 .. 300; of one MINUTE the one with the lesser number): it; the ROW: after how many MINUTES, the PLACE.", """
        town gb;gc;k = 3
        put(0,0,0,99) = 0
        put(1,0,0,4) = 1
        put(0,0,0,2) = 2
        put(1,0,0,2) = 3
        same lost(0) = -2
        same lost(2) = -2
        quiet lost(3) = 2 | 3 1
        quiet lost(300) = 2 | 3 1
        run(3) = 0 | 0 12
        same lost(1) = -2
        quiet lost(2) = 1 | 2 2
        run(2) = 0 | 0 2
        same lost(94) = -2
        quiet lost(95) = 0 | 95 1
        """);
    clause("19", "-2: none is (those LOST already do not count); NONE: another n.", "same lost(300) = -2\n", three, """
        same lost(1) = -2
        run(2) = 0 | 0 2
        same lost(300) = -2
        same lost(0) = -2
        """, refused("lost", "5", "-1 301"));
    clause("20", "THINGS (bits) that are HOME in n MINUTES (0 .. 300); the ROW: LOST, on their way (bits). NONE: another n.", "quiet homes(0) = 0 | 0 0\n", three, """
        quiet homes(0) = 4 | 0 3
        quiet homes(1) = 4 | 0 3
        quiet homes(2) = 4 | 2 1
        quiet homes(3) = 5 | 2 0
        quiet homes(300) = 5 | 2 0
        """, refused("homes", "5", "-1 301"));
  }

  // ---- promises 21 to 27

  private static void oneAlone() {
    clause("21", "A THING put at a PLACE with BOAT, COINS, setting out in w MINUTES (0 .. 99): after how many MINUTES it is HOME in a kitchen 'to' (0: it is put there).", TOWN, """
        same sail(0,9,0,0,3) = 3
        same sail(0,5,0,0,3) = 3
        same sail(0,9,0,99,3) = 102
        same sail(3,0,0,0,3) = 0
        same sail(3,0,0,99,3) = 0
        run(9) = 0 | 0 0
        same sail(0,9,0,0,3) = 3
        rule m=108 = 0
        same sail(1,9,9,99,5) = 101
        town k;ga = 2
        same sail(0,0,0,0,0) = 0
        same sail(1,1,0,0,0) = 1
        """);
    clause("21", "-2: not there (LOST, elsewhere, not in 300 MINUTES); NONE: others, no kitchen.", TOWN, """
        same sail(0,4,0,0,3) = -2
        same sail(0,9,0,0,5) = -2
        same sail(5,9,0,0,3) = -2
        same sail(4,9,2,0,5) = -2
        """, refused("sail", "0 9 0 0 3", "-1 6 12 32", "-1 100", "-1 10", "-1 100", "-1 0 1 2 4 6 12 32"), "same sail(3,9,0,0,0) = -1\n");
    clause("22", "The PLACE and MINUTES to wait (0 .. 30) with which it is HOME in a kitchen the soonest, with BOAT and COINS: after how many MINUTES", """
        town dab;k = 2
        rule m=30 = 0
        quiet soonest(99,0,1) = 31 | 0 0
        town dcb;k;mb09 = 3
        quiet soonest(9,0,1) = 31 | 0 30
        rule m=31 = 0
        same soonest(9,0,1) = -2
        run(1) = 0 | 0 0
        quiet soonest(9,0,1) = 31 | 0 30
        """);
    clause("22", "the ROW: the PLACE, the wait: of as soon ones (not the kitchen itself) the least row.", """
        town k;ia3;ga;ga = 4
        quiet soonest(9,0,0) = 1 | 1 0
        run(1) = 0 | 0 0
        quiet soonest(9,0,0) = 1 | 2 0
        town k;ia3 = 2
        run(1) = 0 | 0 0
        quiet soonest(9,0,0) = 3 | 1 0
        town k;ma05;ia6 = 3
        quiet soonest(9,0,0) = 1 | 2 0
        run(1) = 0 | 0 0
        quiet soonest(9,0,0) = 6 | 1 5
        """);
    clause("22", "-2: from none; NONE: others, no kitchen.", TOWN, """
        same soonest(0,0,3) = -2
        same soonest(2,0,3) = -2
        same soonest(9,2,5) = -2
        """, refused("soonest", "9 0 3", "-1 100", "-1 10", "-1 0 1 2 4 6 12 32"), "town k = 1\nsame soonest(9,0,0) = -2\n");
    clause("23", "PLACES (bits) from which it is HOME in a kitchen with BOAT, COINS, setting out now; the ROW: from which it is HOME in some kitchen, from which it is LOST (bits). NONE: others, no kitchen.",
        TOWN, """
        quiet basin(99,9,3) = 15 | 63 0
        quiet basin(9,0,3) = 15 | 47 0
        quiet basin(0,0,3) = 8 | 40 7
        quiet basin(0,9,3) = 8 | 40 23
        quiet basin(0,0,5) = 32 | 40 7
        """, refused("basin", "9 0 3", "-1 100", "-1 10", "-1 0 1 2 4 6 12 32"), """
        town k;ma00;ma11 = 3
        quiet basin(9,0,0) = 5 | 5 2
        run(1) = 0 | 0 0
        quiet basin(9,0,0) = 3 | 3 4
        """);
    clause("24", "The least BOAT (0 .. 99) with which it is HOME in a kitchen from a PLACE, with COINS, setting out now: it; the ROW: after how many MINUTES.", TOWN, """
        quiet boat(3,0,3) = 0 | 0
        quiet boat(2,0,3) = 3 | 1
        quiet boat(0,9,3) = 5 | 3
        rule b>97 = 0
        quiet boat(0,9,5) = 99 | 3
        quiet boat(1,9,5) = 98 | 2
        rule b>98 = 0
        same boat(0,9,5) = -2
        """);
    clause("24", "-2: with none; NONE: others, no kitchen.", TOWN, "same boat(0,9,5) = -2\nsame boat(3,0,5) = -2\nsame boat(4,2,5) = -2\n",
        refused("boat", "0 0 3", "-1 6 12 32", "-1 10", "-1 0 1 2 4 6 12 32"));
    clause("25", "The fewest COINS (0 .. 9) likewise, with a BOAT.", TOWN, """
        quiet coins(0,5,3) = 0 | 3
        same coins(0,4,3) = -2
        quiet coins(3,0,3) = 0 | 0
        quiet coins(4,1,5) = 3 | 1
        same coins(4,0,5) = -2
        same coins(0,9,5) = -2
        """, refused("coins", "0 9 3", "-1 6 12 32", "-1 100", "-1 0 1 2 4 6 12 32"), """
        town rb9;k;rb3;rc3;rd3;re1 = 6
        quiet coins(0,9,1) = 9 | 1
        quiet coins(4,9,1) = 9 | 3
        same coins(5,9,1) = -2
        """);
  }

  private static void waitsAndRounds() {
    clause("26", "MINUTES to wait (bits 0 .. 29) with which it is HOME in a kitchen from a PLACE", """
        town dcb;k;mb09 = 3
        rule m=29 = 0
        quiet waits(0,9,0,1) = 536870912 | 29 1
        rule m=0 = 0
        quiet waits(0,9,0,1) = 1 | 0 1
        rule m=30 = 0
        quiet waits(0,9,0,1) = 0 | -1 -1
        run(1) = 0 | 0 0
        quiet waits(0,9,0,1) = 536870912 | 29 1
        rule 1 = 0
        quiet waits(0,9,0,1) = 1073741823 | 0 1
        """);
    clause("26", "the ROW: the wait with which it takes the fewest MINUTES from setting out (the first such), how many (NONE, NONE without).", """
        town ib3;k = 2
        quiet waits(0,9,0,1) = 1073741823 | 0 1
        run(1) = 0 | 0 0
        quiet waits(0,9,0,1) = 1073741823 | 2 1
        quiet waits(0,0,0,1) = 0 | -1 -1
        town gb;ic7;k = 3
        quiet waits(0,9,0,2) = 1073741823 | 6 2
        quiet waits(2,0,0,2) = 1073741823 | 0 0
        """);
    clause("26", "NONE: others, no kitchen.", TOWN, refused("waits", "0 9 0 3", "-1 6 12 32", "-1 100", "-1 10", "-1 0 1 2 4 6 12 32"));
    clause("27", "How long a round from a PLACE back to it takes, with BOAT and COINS that do not get less (of 99 and 9), setting out now: how many MINUTES till, having made a STEP, it is there behind a MINUTE, on its way", """
        town fb9;rc9;ra9;k;gd = 5
        quiet round(0) = 3 | 3
        quiet round(1) = 3 | 3
        water 3 = 1
        quiet round(0) = 1 | 1
        water 2 = 1
        quiet round(0) = 3 | 3
        water 03 = 2
        quiet round(0) = 11 | 1
        water = 0
        same round(3) = -2
        same round(4) = -2
        town ia5 = 1
        quiet round(0) = 1 | 5
        run(1) = 0 | 0 0
        quiet round(0) = 5 | 5
        town dba;k = 2
        rule (b=99)*(c=9) = 0
        quiet round(0) = 1 | 1
        town fa9;fc9;k = 3
        quiet round(0) = 1 | 1
        same sail(1,9,0,0,2) = -2
        """);
    clause("27", "the ROW: the same of the next round, from then on (NONE: not in these 300).", """
        town dba;k = 2
        rule m<1 = 0
        quiet round(0) = 1 | -1
        rule m<2 = 0
        quiet round(0) = 1 | 1
        rule m<300 = 0
        quiet round(0) = 1 | 1
        town ga = 1
        water 10000000000000000000000000000000000000 = 38
        run(9) = 0 | 0 0
        quiet round(0) = 1 | -1
        water 100000000000000000000000000000 = 30
        quiet round(0) = 1 | 291
        run(1) = 0 | 0 0
        quiet round(0) = 291 | 1
        """);
    clause("27", "-2: it does not come back in 300 MINUTES; NONE: no PLACE.", TOWN, "same round(0) = -2\nsame round(3) = -2\n", refused("round", "0", "-1 6 12 32"),
        "town ma11;ga = 2\nrun(1) = 0\nsame round(0) = -2\nsame round(1) = -2\nwater 0 = 1\nsame round(1) = -2\n");
  }

  // ---- promises 28 to 31

  private static void turnedPlanks() {
    clause("28", "The fewest PLANKS to be turned now so that THINGS told as bits are all HOME in 300 MINUTES: how many; the ROW: which (bits of PLACES; of as few the least), after how many MINUTES the last is.", """
        town dbc;dde;dfd;k;k;mg09;k = 7
        put(0,9,0,0) = 0
        put(2,9,0,5) = 1
        put(3,9,0,0) = 2
        quiet save(0) = 0 | 0 0
        quiet save(1) = 0 | 0 2
        quiet save(2) = 1 | 4 6
        quiet save(3) = 1 | 4 6
        quiet save(4) = 0 | 0 0
        quiet save(7) = 1 | 4 6
        plank(0,1) = 1
        quiet save(1) = 1 | 1 2
        quiet save(3) = 1 | 4 6
        """);
    // The others go their ways meanwhile: THING 1 has left the fork when THING 0 comes to choose.
    clause("28", "so that THINGS told as bits are all HOME in 300 MINUTES", "rule n = 0\n", LEAVING, """
        quiet save(1) = 0 | 0 6
        same save(2) = -2
        same save(3) = -2
        """);
    clause("28", "-2: by none; NONE: bits of none such.", "quiet save(0) = 0 | 0 0\n", "same save(1) = -1\n", FORKS, """
        put(3,9,0,0) = 0
        put(0,9,0,0) = 1
        same save(1) = -2
        same save(3) = -2
        quiet save(2) = 1 | 1 1
        run(1) = 0 | 0 1
        same save(1) = -2
        """, refused("save", "0", "-1 4 5 6 64 32"));
    clause("29", "The fewest PLANKS to be turned so that a THING is HOME in a kitchen: how many; the ROW: likewise.", """
        town dbc;dde;dfd;k;k;mg09;k = 7
        put(0,9,0,0) = 0
        put(3,9,0,9) = 1
        quiet steer(0,3) = 0 | 0 2
        quiet steer(0,4) = 1 | 2 2
        plank(0,1) = 1
        quiet steer(0,3) = 1 | 1 2
        quiet steer(0,4) = 2 | 3 2
        quiet steer(1,3) = 0 | 0 0
        """);
    clause("29", "so that a THING is HOME in a kitchen", "rule n = 0\n", LEAVING, """
        quiet steer(0,1) = 0 | 0 6
        same steer(1,1) = -2
        town dbc;k;k = 3
        put(0,9,0,5) = 0
        put(0,9,0,0) = 1
        quiet steer(0,1) = 0 | 0 6
        same steer(0,2) = -2
        same steer(1,1) = -2
        quiet steer(1,2) = 0 | 0 1
        """);
    clause("29", "-2: by none; NONE: others, no kitchen.", FORKS, """
        put(1,9,0,0) = 0
        put(2,9,0,0) = 1
        put(3,9,0,0) = 2
        same steer(0,2) = -2
        same steer(1,4) = -2
        same steer(2,2) = -2
        run(2) = 0 | 0 5
        same steer(0,4) = -2
        """, refused("steer", "1 2", "-1 3 6 32", "-1 0 1 3 5 12 32"));
    clause("30", "Sets of forks (PLANKS 1 at these, 0 at others) by which a THING put at a PLACE (BOAT, COINS, now) is HOME in a kitchen: how many; the ROW: the first (bits of PLACES; the least; NONE), the last.", FORKS, """
        quiet ways(0,9,0,2) = 2 | 1 3
        quiet ways(0,9,0,4) = 1 | 2 2
        quiet ways(2,0,0,2) = 4 | 0 3
        quiet ways(1,9,0,2) = 0 | -1 -1
        quiet ways(0,0,0,2) = 0 | -1 -1
        plank(0,1) = 1
        quiet ways(0,9,0,4) = 1 | 2 2
        town ga;k;dba = 3
        quiet ways(2,9,0,1) = 1 | 0 0
        quiet ways(1,9,0,1) = 2 | 0 4
        town gb;k = 2
        quiet ways(0,9,0,1) = 1 | 0 0
        town k;ma00;dba = 3
        quiet ways(0,0,0,0) = 2 | 0 4
        quiet ways(1,9,0,0) = 0 | -1 -1
        quiet ways(2,9,0,0) = 2 | 0 4
        rule p+p = 0
        town dbc;k;k = 3
        quiet ways(0,9,0,1) = 1 | 0 0
        quiet ways(0,9,0,2) = 1 | 1 1
        rule p-p = 0
        quiet ways(0,9,0,1) = 2 | 0 1
        """);
    clause("30", "NONE: others, no kitchen.", FORKS, refused("ways", "0 9 0 2", "-1 5 12 32", "-1 100", "-1 10", "-1 0 1 3 5 12 32"));
  }

  private static void duels() {
    clause("31", "Two by turns, the first first, each turn one PLANK (or none) for a THING put at a PLACE (BOAT, COINS, setting out now), n turns (0 .. 3) in all, all ahead of the MINUTE that is now", FORKS, """
        quiet duel(0,9,0,2,0) = 0 | -1
        quiet duel(0,9,0,2,1) = 1 | 0
        quiet duel(0,9,0,2,2) = 0 | -1
        quiet duel(0,9,0,2,3) = 1 | -1
        quiet duel(0,9,0,4,3) = 1 | 1
        plank(0,1) = 1
        quiet duel(0,9,0,2,0) = 1 | -1
        quiet duel(0,9,0,2,1) = 1 | -1
        quiet duel(0,9,0,2,2) = 0 | -1
        """);
    clause("31", "the first wants it HOME in a kitchen, the second not: 1 if the first gets it, as well as both can play, else 0; the ROW: the fork whose PLANK is turned first"
        + " (NONE: none; of as good ones NONE, then the least; NONE for n 0).", """
        town dbc;k;dbd;gb = 4
        quiet duel(0,9,0,1,3) = 1 | -1
        town dcc;k;ddb;mb09 = 4
        quiet duel(0,9,0,1,1) = 1 | 2
        town ddb;k;ddb;mb09 = 4
        quiet duel(0,9,0,1,1) = 1 | 0
        quiet duel(2,9,0,1,1) = 1 | 2
        quiet duel(0,9,0,1,0) = 0 | -1
        town dbc;k;ddd;dac = 4
        rule 1-p = 0
        quiet duel(0,9,0,1,1) = 1 | 0
        quiet duel(0,9,0,1,2) = 0 | -1
        plank(0,1) = 1
        quiet duel(0,9,0,1,0) = 1 | -1
        """);
    clause("31", "(BOAT, COINS, setting out now)", """
        town k;ma00;ma11;ra5 = 4
        quiet duel(1,9,0,0,1) = 0 | -1
        quiet duel(2,9,0,0,1) = 1 | -1
        quiet duel(2,0,0,0,1) = 0 | -1
        quiet duel(3,9,4,0,1) = 0 | -1
        quiet duel(3,9,5,0,1) = 1 | -1
        quiet duel(0,0,0,0,0) = 1 | -1
        run(1) = 0 | 0 0
        quiet duel(2,9,0,0,1) = 0 | -1
        """);
    // Either of forks a and b may be turned first: both lead to kitchen c then, and the least is told.
    clause("31", "of as good ones NONE, then the least", """
        town dbc;ddc;k;mc09 = 4
        quiet duel(0,9,0,2,1) = 1 | 0
        plank(1,1) = 1
        quiet duel(0,9,0,2,1) = 1 | -1
        quiet duel(0,9,0,2,2) = 1 | 0
        """);
    clause("31", "NONE: others, no kitchen.", FORKS, refused("duel", "0 9 0 2 1", "-1 5 12 32", "-1 100", "-1 10", "-1 0 1 3 5 12 32", "-1 4"));
  }

  // ---- promises 32 to 35

  private static void corks() {
    clause("32", "A cork was put at a PLACE in MINUTE m (0 .. 999), and came HOME in a kitchen (NONE: it did not, in 300 MINUTES), PLANKS being as they were: how many were told.", FORK, """
        cork(0,0,1) = 1
        cork(0,999,1) = 2
        cork(2,5,-1) = 3
        count(9) = 3
        maps() = 0 | -1 1 1
        forget() = 3
        rule m=999 = 0
        cork(0,999,2) = 1
        cork(0,0,1) = 2
        maps() = 2 | 0 0 0
        town k;ma00;ra1;dac = 4
        rule b=99 = 0
        cork(0,0,0) = 1
        cork(1,0,-1) = 2
        cork(1,1,0) = 3
        cork(2,0,-1) = 4
        cork(3,0,-1) = 5
        maps() = 2 | 0 0 0
        """);
    clause("32", "Refused: others, no kitchen, 10.", "same cork(0,0,-1) = -1\n", FORKS, refused("cork", "0 0 2", "-1 5 12 32", "-1 1000", "-2 0 1 3 5 12 32"), """
        cork(0,0,2) = 1
        cork(0,0,2) = 2
        cork(0,0,2) = 3
        cork(0,0,2) = 4
        cork(0,0,2) = 5
        cork(0,0,2) = 6
        cork(0,0,2) = 7
        cork(0,0,2) = 8
        cork(0,0,2) = 9
        cork(0,0,2) = 10
        same cork(0,0,2) = -1
        same cork(0,0,4) = -1
        maps() = 2 | 1 1 0
        forget() = 10
        cork(0,0,2) = 1
        """);
    clause("33", "Corks are forgotten: how many there were.", "forget() = 0\n", FORKS, "forget() = 0\ncork(0,0,2) = 1\ncork(0,0,4) = 2\nmaps() = 0\nforget() = 2\ncount(9) = 0\nmaps() = 4\nforget() = 0\n");
    clause("34", "Sets of forks (PLANKS 1) by which all corks would have done so: how many; the ROW: the least (bits; NONE), forks (bits) that are 1 in all of them, forks that are 0 in all.", "quiet maps() = 1 | 0 0 0\n", FORKS, """
        quiet maps() = 4 | 0 0 0
        cork(0,0,2) = 1
        quiet maps() = 2 | 1 1 0
        cork(1,0,-1) = 2
        quiet maps() = 1 | 1 1 2
        cork(4,0,4) = 3
        quiet maps() = 1 | 1 1 2
        cork(4,0,-1) = 4
        quiet maps() = 0 | -1 3 3
        town gb;k = 2
        quiet maps() = 1 | 0 0 0
        cork(0,0,1) = 1
        quiet maps() = 1 | 0 0 0
        cork(0,0,-1) = 2
        quiet maps() = 0 | -1 0 0
        """);
    // Fork a - kitchen c or fork b, that leads to kitchens d and e; corks from f go by b alone.
    clause("35", "The PLACE at which a cork, put in MINUTE m (0 .. 999), leaves the fewest such sets at most, wherever it comes HOME (or not); of equal ones the first: it; the ROW: how many at most.", """
        town dcb;dde;k;k;k;gb = 6
        quiet next(0) = 0 | 2
        quiet next(999) = 0 | 2
        cork(0,0,2) = 1
        quiet next(0) = 1 | 1
        forget() = 1
        cork(1,0,3) = 1
        quiet next(0) = 0 | 1
        cork(0,0,2) = 2
        quiet next(0) = 0 | 1
        forget() = 2
        rule (m=999)*p = 0
        quiet next(999) = 0 | 2
        quiet next(998) = 5 | 2
        quiet next(997) = 0 | 4
        rule p = 0
        town k;mc00;dab = 3
        quiet next(0) = 2 | 1
        town k;ra1;dab = 3
        quiet next(0) = 2 | 1
        town k;ga;mb09;dac;dab = 5
        quiet next(0) = 3 | 2
        cork(3,0,0) = 1
        quiet next(0) = 0 | 2
        town k;rb1;dad;mb00 = 4
        quiet next(0) = 2 | 1
        rule (m=1)*p = 0
        quiet next(0) = 0 | 2
        quiet next(1) = 2 | 1
        """);
    clause("35", "-2: there is no such set; NONE: no PLACES, another m.", "same next(0) = -1\nsame next(-1) = -1\nsame next(1000) = -1\n", FORKS, refused("next", "0", "-1 1000"), """
        cork(4,0,-1) = 1
        same next(0) = -2
        same next(999) = -2
        same next(1000) = -1
        town = 0
        same next(0) = -1
        """);
  }

  // ---- promises 36 to 42

  private static void likelihoods() {
    String dry = "water 0 = 1\ntown gb;gc;gd;ge;gf;gg;gh;gi;gj;gk;gl;k = 12\nput(0,99,0,0) = 0\n";
    // In each HOUR of rain it makes ten STEPS: it needs two of them, from their first MINUTE on.
    clause("36", "How likely a THING is HOME in n MINUTES (0 .. 60; all others as they are), if WATER of each HOUR whose first MINUTE is NOW or later is 1 more (3 at most) by p tenths (0 .. 10), each HOUR by itself: 0; the ROW: the fraction.", dry, """
        quiet odds(0,0,5) = 0 | 0 1
        quiet odds(0,10,10) = 0 | 0 1
        quiet odds(0,11,10) = 0 | 1 1
        quiet odds(0,11,5) = 0 | 1 4
        quiet odds(0,20,5) = 0 | 1 4
        quiet odds(0,21,5) = 0 | 1 2
        quiet odds(0,60,5) = 0 | 57 64
        quiet odds(0,60,0) = 0 | 0 1
        quiet odds(0,60,1) = 0 | 22853 200000
        run(1) = 0 | 0 0
        quiet odds(0,19,10) = 0 | 0 1
        quiet odds(0,20,10) = 0 | 1 1
        quiet odds(0,20,5) = 0 | 1 4
        put(11,0,0,0) = 1
        quiet odds(1,0,0) = 0 | 1 1
        quiet odds(1,60,5) = 0 | 1 1
        water 3 = 1
        quiet odds(0,3,10) = 0 | 0 1
        quiet odds(0,4,0) = 0 | 1 1
        water 2 = 1
        run(9) = 1 | 1 0
        put(0,99,0,0) = 2
        quiet odds(2,4,9) = 0 | 9 10
        quiet odds(2,3,9) = 0 | 0 1
        quiet odds(2,6,9) = 0 | 1 1
        water 3 = 1
        quiet odds(2,3,10) = 0 | 0 1
        quiet odds(2,4,10) = 0 | 1 1
        """);
    clause("36", "each HOUR whose first MINUTE is NOW or later", dry, "run(99) = 0\n".repeat(12), "run(12) = 0\ncount(2) = 1200\n", """
        quiet odds(0,10,10) = 0 | 0 1
        quiet odds(0,11,10) = 0 | 1 1
        quiet odds(0,60,5) = 0 | 57 64
        run(1) = 0 | 0 0
        quiet odds(0,19,10) = 0 | 0 1
        quiet odds(0,20,10) = 0 | 1 1
        quiet odds(0,60,5) = 0 | 57 64
        quiet odds(0,59,5) = 0 | 13 16
        run(8) = 0 | 0 0
        quiet odds(0,1,5) = 0 | 0 1
        quiet odds(0,12,5) = 0 | 1 4
        """);
    clause("36", "in n MINUTES (0 .. 60; all others as they are)", "rule n = 0\n", LEAVING, "quiet odds(0,6,5) = 0 | 1 1\nquiet odds(0,5,5) = 0 | 0 1\n", """
        town gb;gc;k = 3
        put(0,9,0,0) = 0
        quiet odds(0,1,3) = 0 | 3 10
        quiet odds(0,2,3) = 0 | 1 1
        run(10) = 1 | 1 0
        put(0,9,0,0) = 1
        quiet odds(1,1,4) = 0 | 2 5
        run(99) = 1 | 2 0
        put(0,9,0,0) = 2
        quiet odds(2,1,4) = 0 | 0 1
        """);
    clause("36", "NONE: others.", "same odds(0,0,0) = -1\n", dry, refused("odds", "0 10 5", "-1 1 6 32", "-1 61", "-1 11"));
  }

  private static void marksAndOrders() {
    clause("37", "PLACES and waits (0 .. 9) from which a THING alone with BOAT, COINS comes HOME (in 300 MINUTES) with just these MARKS (bits): how many such pairs; the ROW: the least PLACE, its least wait (none without), PLACES (bits).", """
        town dcb;k;mb09;gb = 4
        rule m=9 = 0
        quiet marks(9,0,3) = 1 | 0 9 1
        rule m=10 = 0
        quiet marks(9,0,3) = 0 | 0
        rule m=0 = 0
        quiet marks(9,0,3) = 1 | 0 0 1
        quiet marks(9,0,2) = 10 | 1 0 2
        quiet marks(0,0,2) = 10 | 1 0 2
        quiet marks(9,0,10) = 10 | 3 0 8
        quiet marks(0,0,10) = 0 | 0
        quiet marks(9,0,1) = 0 | 0
        town gb;ga;k;dac = 4
        rule p = 0
        quiet marks(9,0,12) = 0 | 0
        plank(3,1) = 1
        quiet marks(9,0,12) = 10 | 3 0 8
        town gb;dac;k = 3
        rule m>8 = 0
        quiet marks(99,9,7) = 19 | 0 0 3
        rule m>2 = 0
        quiet marks(9,0,6) = 7 | 1 3 2
        """);
    clause("37", "NONE: others (MARKS 0 .. 4095).", TOWN, "quiet marks(9,0,0) = 0 | 0\nquiet marks(9,0,4095) = 0 | 0\n", refused("marks", "9 0 15", "-1 100", "-1 10", "-1 4096"));
    clause("38", "Two unlike THINGS on their way set out anew where they are now, the first in a MINUTES, the second in b (0 .. 9 each; all others as they are): so that both are HOME in 300 MINUTES, a + b the least: how much;"
        + " the ROW: a, b: of as little the least row, how many such rows there are.", """
        town mb08;k;gb;mb07 = 4
        put(0,9,0,50) = 0
        put(0,9,0,0) = 1
        put(2,9,0,99) = 2
        put(3,9,0,0) = 3
        quiet order(0,1) = 18 | 9 9 1
        quiet order(0,2) = 9 | 9 0 1
        quiet order(2,0) = 9 | 0 9 1
        quiet order(3,1) = 17 | 8 9 1
        of(0,5) = 50
        of(2,5) = 99
        rule n = 0
        town dbc;k;mb09 = 3
        put(0,9,0,0) = 0
        put(0,9,0,0) = 1
        same order(0,1) = -2
        rule n*(m>0) = 0
        quiet order(0,1) = 0 | 0 0 1
        town dcb;k;mb09 = 3
        put(0,9,0,0) = 0
        put(0,9,0,0) = 1
        rule (m=9)+(i=0) = 0
        quiet order(0,1) = 9 | 0 9 1
        rule (m=9)+(i=1) = 0
        quiet order(0,1) = 9 | 9 0 1
        rule (m=10)+(i=0) = 0
        same order(0,1) = -2
        rule (m=10)+(i=1) = 0
        same order(0,1) = -2
        """);
    // Both must not leave fork a in MINUTE 0: one waits, it does not matter which.
    clause("38", "of as little the least row, how many such rows there are", """
        rule (n=1)*(m=0) = 0
        town dbc;k;mb09;ga = 4
        put(0,9,0,0) = 0
        put(0,9,0,0) = 1
        quiet order(0,1) = 2 | 1 1 1
        rule (m=1)*(i=1) = 0
        quiet order(0,1) = 0 | 0 0 1
        rule (m=0)*(i=1)+(m=0)*(i=0)*n = 0
        quiet order(0,1) = 2 | 1 1 1
        rule (m=0)*(n=0) = 0
        quiet order(0,1) = 1 | 0 1 2
        quiet order(1,0) = 1 | 0 1 2
        """);
    // With two others at the fork the mill gets it: only behind THING 1, which leaves in MINUTE 3, one may go.
    clause("38", "(0 .. 9 each; all others as they are)", """
        rule n>1 = 0
        town dbc;k;mc09 = 3
        put(0,9,0,0) = 0
        put(0,9,0,3) = 1
        put(0,9,0,0) = 2
        quiet order(0,2) = 7 | 4 3 1
        quiet order(2,0) = 7 | 3 4 1
        """);
    clause("38", "-2: by none; NONE: others, one is LOST or HOME.", "same order(0,1) = -1\n", """
        town mb09;k;gb;mb00 = 4
        put(0,9,0,0) = 0
        put(2,9,0,9) = 1
        put(1,9,0,0) = 2
        put(3,9,0,0) = 3
        put(2,9,0,9) = 4
        same order(0,1) = -2
        same order(1,0) = -2
        same order(1,2) = -1
        same order(2,1) = -1
        same order(1,1) = -1
        same order(0,0) = -1
        run(1) = 0 | 0 9
        same order(1,3) = -1
        same order(3,1) = -1
        same order(0,1) = -1
        quiet order(1,4) = 0 | 0 0 1
        """, refused("order", "1 4", "-1 4 5 6 32", "-1 1 5 6 32"));
  }

  private static void kept() {
    clause("39", "THINGS, PLANKS, NOW are kept under a number 0 .. 2: true. Refused: others.", TOWN, outside("keep", "0", "0", "-1 3 32 33"), """
        same keep(0) = 1
        same keep(2) = 1
        run(3) = 0 | 0 0
        keep(2) = 1
        run(3) = 0 | 0 0
        again(2) = 1
        count(2) = 3
        again(0) = 1
        count(2) = 0
        keep(1) = 1
        """);
    clause("40", "They are as they were kept under a number. Refused: nothing kept.", outside("again", "0", "0", "-1 0 1 2 3 32"), TOWN, """
        put(0,9,3,2) = 0
        plank(1,1) = 1
        run(1) = 0 | 0 0
        keep(1) = 1
        run(9) = 1 | 1 0
        put(0,9,3,2) = 1
        plank(1,0) = 1
        same again(0) = 0
        same again(2) = 0
        again(1) = 1
        count(1) = 1
        count(2) = 1
        count(4) = 2
        of(0,0) = 0
        of(0,1) = 9
        of(0,2) = 3
        of(0,3) = 1
        of(0,4) = 0
        of(0,5) = 1
        of(0,6) = -1
        again(1) = 1
        """, outside("again", "0", "1", "-1 0 2 3 31 32 33"));
    clause("41", "What 0: PLACES, 1: THINGS, 2: NOW, 3: forks (bits), 4: PLANKS that are 1 (bits), 5: THINGS on their way, 6: HOME, 7: LOST (bits),"
        + " 8: what can be undone, 9: corks, 10: numbers of the ROW, 11: signs of THE TEXT.", FORKS, """
        plank(1,1) = 1
        put(0,9,0,0) = 0
        put(3,9,0,0) = 1
        put(2,9,0,0) = 2
        put(0,9,0,8) = 3
        run(2) = 1 | 1 2
        cork(0,0,2) = 1
        cork(0,5,-1) = 2
        sign(1) = 4
        count(0) = 5
        count(1) = 4
        count(2) = 2
        count(3) = 3
        count(4) = 2
        count(5) = 8
        count(6) = 5
        count(7) = 2
        count(8) = 6
        count(9) = 2
        count(10) = 2
        count(11) = 4
        where(3,0) = 0 | 0 9 0
        count(10) = 3
        """);
    clause("41", "-100 for another what.", TOWN, outside("count", "-100", "0", "-1 12 13 32 -100"), "count(0) = 6\ncount(11) = 0\n");
    clause("42", "Number i of the ROW. NoSuchElementException: none such.", outside("row", "throws", "0", "-1 0 1 3"), TOWN, """
        put(0,9,2,0) = 0
        where(0,1) = 1 | 0 8 2
        row(0) = 0
        row(1) = 8
        row(2) = 2
        """, outside("row", "throws", "0", "-1 3 4 32"), "coins(4,9,5) = 3 | 1\nrow(0) = 1\nsame row(1) = throws\nsame row(2) = throws\n");
  }

  // ---- what is said ahead of calls

  private static void headings() {
    clause("Headings", "what will be (nothing changes)", TOWN, """
        put(0,9,0,0) = 0
        put(0,2,0,1) = 1
        put(4,9,0,0) = 2
        run(1) = 0 | 0 0
        quiet where(0,300) = 3 | 1 4 0
        quiet comes(0) = 2 | 3 15
        quiet comes(1) = -2 | 3
        quiet comes(2) = -3 | 4
        quiet lost(300) = 1 | 3 3
        quiet homes(300) = 1 | 2 4
        same lost(2) = -2
        """);
    // Of those that wait at fork a none is there for it, its number is 0, and it is put in MINUTE 7: only so it goes to b.
    String waiting = "put(0,9,0,50) = 0\nput(0,9,0,50) = 1\nput(0,9,0,50) = 2\nput(0,9,0,50) = 3\nput(0,9,0,50) = 4\nput(0,9,0,50) = 5\nrun(7) = 0 | 0 0\n";
    String alone = "one alone (a THING that is thought of, put now; no other ones are there; its number is 0)";
    clause("Headings", alone, FORK, waiting, """
        rule n+i+m-7 = 0
        same sail(0,9,0,0,1) = 1
        same sail(0,9,0,0,2) = -2
        same sail(0,9,0,1,2) = 2
        quiet soonest(9,0,1) = 1 | 0 0
        quiet soonest(9,0,2) = 2 | 0 1
        quiet basin(9,0,1) = 3 | 7 0
        quiet basin(9,0,2) = 4 | 7 0
        quiet boat(0,0,1) = 1 | 1
        same boat(0,0,2) = -2
        quiet coins(0,9,1) = 0 | 1
        same coins(0,9,2) = -2
        quiet waits(0,9,0,1) = 1 | 0 1
        quiet waits(0,9,0,2) = 1073741822 | 1 1
        """);
    clause("Headings", alone, "town dab;k = 2\n", waiting, """
        rule n+i+m-7 = 0
        quiet round(0) = 1 | -1
        rule n+i = 0
        quiet round(0) = 1 | 1
        rule n+i+1 = 0
        same round(0) = -2
        """);
    // 99 STEPS bring it to b, the hundredth would be one too many.
    clause("Headings", "corks (things without COINS, with BOAT 99)", "town dab;k = 2\n", """
        rule m>97 = 0
        cork(0,0,1) = 1
        maps() = 2 | 0 0 0
        rule m>98 = 0
        maps() = 0 | -1 1 1
        forget() = 1
        cork(0,0,-1) = 1
        maps() = 2 | 0 0 0
        town rb1;k = 2
        cork(0,0,1) = 1
        maps() = 0 | -1 0 0
        forget() = 1
        cork(0,0,-1) = 1
        maps() = 1 | 0 0 0
        town rb1;dac;k = 3
        rule = 0
        next(0) = 1 | 1
        rule (b=99)*(c=0)*p = 0
        next(0) = 1 | 1
        town dbc;k;k = 3
        next(0) = 0 | 1
        cork(0,0,2) = 1
        maps() = 1 | 1 1 0
        """);
  }

  // ---- the document

  private static void compareWithDocument() throws IOException {
    if (!Files.exists(DOCUMENT)) {
      System.out.println("SentencesTest: the document is not there, its sentences are not compared");
      return;
    }
    String text = Files.readString(DOCUMENT).replaceAll("\\s+", " ");
    compareSection("What it is", between(text, "An object is used", "## The public face"));
    compareSection("Terms", between(text, "## Terms 1. ", "Ahead of the calls").substring("## Terms 1. ".length()).replace(" ```text", "").replace(" 2. ROW", " ROW"));
    Matcher heading = HEADING.matcher(between(text, "Ahead of the calls", "## Promise 1:"));
    while (heading.find()) {
      compareSection("Headings", heading.group(1));
    }
    for (int n = 1; n <= 42; n++) {
      String section = between(text, "## Promise " + n + ":", n < 42 ? "## Promise " + (n + 1) + ":" : "## Not promised");
      int signature = section.indexOf("`: ");
      compareSection(String.valueOf(n), section.substring(Math.max(0, signature)));
    }
    for (Clause clause : CLAUSES) {
      if (!FOUND.contains(clause)) {
        LINES.fault(clause.section + ": the document does not say \"" + clause.sentence + "\"");
      }
    }
  }

  private static String between(String text, String from, String to) {
    int begin = text.indexOf(from);
    int end = text.indexOf(to, Math.max(0, begin));
    if (begin < 0 || end < 0) {
      LINES.fault("the document has no part from " + from + " to " + to);
      return "";
    }
    return text.substring(begin, end);
  }

  private static void compareSection(String name, String section) {
    boolean[] quoted = new boolean[section.length()];
    for (Clause clause : CLAUSES) {
      if (!clause.section.equals(name)) {
        continue;
      }
      int at = section.indexOf(clause.sentence);
      if (at < 0) {
        continue;
      }
      FOUND.add(clause);
      for (int k = at; k < at + clause.sentence.length(); k++) {
        quoted[k] = true;
      }
    }
    Matcher word = WORD.matcher(section);
    while (word.find()) {
      if (!quoted[word.start()]) {
        LINES.fault(name + ": no sentence is quoted for \"" + section.substring(word.start(), Math.min(section.length(), word.start() + 60)) + "\"");
        return;
      }
    }
  }
}
