/** The edges of what statements do, in Part 3: what becomes of numbers, blocks, calls. */
final class StatementEdges extends Edges {
  // 2147483647 in the variable 6 and 1 in the variable 5; 2 to the power of 30 is the square.
  private static final String GREATEST = "k5,1;k0,-32768;*6,0,0;-7,6,5;+6,6,7;";
  private static final String LEAST = "k5,1;k0,-32768;*6,0,0;k0,0;-7,0,6;-6,7,6;";

  static void all() {
    placesToHold();
    digits();
    narrowed();
    narrowedElsewhere();
    numbersAndInputs();
    reckoned();
    elements();
    fieldsAndRecords();
    asked();
    blocks();
    loops();
    bodies();
    calls();
    callsDeep();
  }

  private static void puts(String text, String due) {
    eq(text, outs(with(text), 0), due);
  }

  private static void placesToHold() {
    says("When it is walked there are variables 0 to 7, records 0 and 1 of the");
    StringBuilder text = new StringBuilder();
    for (int v = 0; v < 8; v++) {
      text.append("k").append(v).append(",").append(v + 10).append(";");
    }
    puts(text + "o0;o1;o2;o3;o4;o5;o6;o7;", "10 11 12 13 14 15 16 17");
    raises("variable 8", ARGUMENT, fresh(), () -> with("k8,0;"));
    text.setLength(0);
    for (int f = 0; f < 6; f++) {
      text.append("k0,").append(f + 20).append(";p").append(f / 3).append(",").append(f % 3)
          .append(",0;");
    }
    for (int f = 0; f < 6; f++) {
      text.append("f1,").append(f / 3).append(",").append(f % 3).append(";o1;");
    }
    puts(text.toString(), "20 21 22 23 24 25");
    raises("record 2", ARGUMENT, fresh(), () -> with("f0,2,0;"));
    raises("field 3", ARGUMENT, fresh(), () -> with("f0,0,3;"));
    for (int length = 1; length <= 6; length++) {
      text.setLength(0);
      StringBuilder due = new StringBuilder();
      for (int k = 0; k < length; k++) {
        text.append("k0,").append(k).append(";k1,").append(k + 30).append(";s0,1;");
      }
      for (int k = 0; k < length; k++) {
        text.append("k0,").append(k).append(";g2,0;o2;");
        due.append(k == 0 ? "" : " ").append(k + 30);
      }
      Pathwright x = with(text.toString());
      x.limit(0, 'r', length);
      eq("a row of " + length, outs(x, 0), due.toString());
    }
  }

  private static void digits() {
    says("Variables 6 and 7 are numbers of 32 binary digits, all others, fields");
    for (int v = 0; v < 8; v++) {
      String add = v < 2 ? "k2,32767;k3,1;+V,2,3;oV;k2,-32768;-V,2,3;oV;"
          : "k0,32767;k1,1;+V,0,1;oV;k0,-32768;-V,0,1;oV;";
      puts(add.replace("V", "" + v), v < 6 ? "-32768 32767" : "32768 -32769");
      puts("o" + v + ";", "0");
    }
    puts(GREATEST + "o6;+6,6,5;o6;", "2147483647 -2147483648");
    puts(LEAST + "o6;-6,6,5;o6;", "-2147483648 2147483647");
    puts(GREATEST + "m7,6;o7;+7,7,5;o7;", "2147483647 -2147483648");
    for (int f = 0; f < 6; f++) {
      String field = f / 3 + "," + f % 3;
      puts("f6," + field + ";o6;", "0");
      puts("k0,32767;k1,1;+6,0,1;p" + field + ",6;f7," + field + ";o7;", "-32768");
    }
    for (int k = 0; k < 4; k++) {
      puts("k0," + k + ";g6,0;o6;", "0");
      puts("k2," + k + ";k0,32767;k1,1;+6,0,1;s2,6;g7,2;o7;", "-32768");
    }
    puts("k0,-1;*1,0,0;k2,-32768;*3,2,2;o1;o3;", "1 0");
  }

  /** What a number becomes by w and s, and how the walk ends by t. */
  private static void becomes(String text, String wrapped, String cut, String ends) {
    eq(text + " by w", outs(way('w', text), 0), wrapped);
    eq(text + " by s", outs(way('s', text), 0), cut);
    eq(text + " by t", ends(way('t', text), 0), ends);
  }

  private static void narrowed() {
    says("A number that something becomes is narrowed to its digits: by the way");
    becomes("k0,32766;k1,1;+2,0,1;o2;", "32767", "32767", "e 4");
    becomes("k0,32767;k1,1;+2,0,1;o2;", "-32768", "32767", "o 2");
    becomes("k0,-32767;k1,1;-2,0,1;o2;", "-32768", "-32768", "e 4");
    becomes("k0,-32768;k1,1;-2,0,1;o2;", "32767", "-32768", "o 2");
    becomes("k0,-32768;k1,1;*2,0,1;o2;", "-32768", "-32768", "e 4");
    becomes("k0,-32768;k1,-1;*2,0,1;o2;", "-32768", "32767", "o 2");
    becomes("k0,-32768;k1,-1;/2,0,1;o2;", "-32768", "32767", "o 2");
    becomes("k0,256;k1,255;*2,0,1;o2;", "-256", "32767", "o 2");
    becomes("k0,-256;k1,256;*2,0,1;o2;", "0", "-32768", "o 2");
    String sixteen = "k0,32767;k1,1;+6,0,1;k0,-32768;-7,0,1;";
    becomes(sixteen + "m2,6;o2;", "-32768", "32767", "o 5");
    becomes(sixteen + "m2,7;o2;", "32767", "-32768", "o 5");
    becomes(sixteen + "&2,6,6;o2;", "-32768", "32767", "o 5");
    becomes(sixteen + "|2,6,1;o2;", "-32767", "32767", "o 5");
    becomes(sixteen + "^2,7,1;o2;", "32766", "-32768", "o 5");
    becomes(sixteen + "%2,6,7;o2;", "-32768", "32767", "o 5");
    becomes(sixteen + "m6,7;o6;", "-32769", "-32769", "e 7");
    becomes(GREATEST + "m7,6;o7;", "2147483647", "2147483647", "e 7");
    becomes(GREATEST + "+7,6,5;o7;", "-2147483648", "2147483647", "o 5");
    becomes(GREATEST + "*7,6,6;o7;", "1", "2147483647", "o 5");
    becomes(LEAST + "m7,6;o7;", "-2147483648", "-2147483648", "e 8");
    becomes(LEAST + "-7,6,5;o7;", "2147483647", "-2147483648", "o 6");
    becomes(LEAST + "k0,-1;/7,6,0;o7;", "-2147483648", "2147483647", "o 7");
  }

  /** Fields, elements, what a call is called with, and what it gives. */
  private static void narrowedElsewhere() {
    String both = "k0,32767;k1,1;+6,0,1;k2,-32768;-7,2,1;";
    becomes(both + "p0,0,6;f5,0,0;o5;", "-32768", "32767", "o 5");
    becomes(both + "p0,0,7;f5,0,0;o5;", "32767", "-32768", "o 5");
    becomes(both + "p1,2,0;f5,1,2;o5;", "32767", "32767", "e 8");
    becomes(both + "p1,2,2;f5,1,2;o5;", "-32768", "-32768", "e 8");
    becomes(both + "s1,6;g5,1;o5;", "-32768", "32767", "o 5");
    becomes(both + "s1,7;g5,1;o5;", "32767", "-32768", "o 5");
    becomes(both + "s1,0;g5,1;o5;", "32767", "32767", "e 8");
    becomes(both + "s1,2;g5,1;o5;", "-32768", "-32768", "e 8");
    String body = "d0;m7,0;v7;.;k0,32767;k1,1;+6,0,1;k2,-32768;-7,2,1;";
    becomes(body + "x6,0,6;o6;", "-32768", "32767", "o 9");
    becomes(body + "x6,0,7;o6;", "32767", "-32768", "o 9");
    becomes(body + "x6,0,0;o6;", "32767", "32767", "e 11");
    becomes(body + "x6,0,2;o6;", "-32768", "-32768", "e 11");
    String more = "d0;k1,32767;k2,1;+6,1,2;v6;.;";
    becomes(more + "x5,0,0;o5;", "-32768", "32767", "o 6");
    becomes(more + "x6,0,0;o6;", "32768", "32768", "e 8");
    becomes("d0;k1,32767;v1;.;x5,0,0;o5;", "32767", "32767", "e 6");
  }

  private static void numbersAndInputs() {
    says("The letters, with what is done (v being the number of a variable");
    puts("k0,-32768;o0;", "-32768");
    puts("k7,32767;o7;", "32767");
    raises("one more", ARGUMENT, fresh(), () -> with("k0,32768;"));
    raises("one less", ARGUMENT, fresh(), () -> with("k0,-32769;"));
    says("i v k: v becomes the value of the input k.");
    Pathwright x = with("i0,0;i1,1;i2,2;i7,3;o0;o1;o2;o7;");
    eq("the last row", outs(x, 63), "3 3 1 1");
    eq("the first row", outs(x, 0), "0 0 0 0");
    eq("one between", outs(x, 0b1_0_10_01), "1 2 0 1");
    x.width(1, 0);
    x.width(0, 4);
    eq("the widest, and none", outs(x, 15), "15 0 0 0");
    raises("input 4", ARGUMENT, x, () -> x.add(0, 'i', 0, 4, 0));
    says("m v a: v becomes a.");
    puts("k1,-9;m0,1;m1,1;o0;o1;", "-9 -9");
  }

  private static void reckoned() {
    says("+ v a b, and likewise -, *, /, %");
    puts("k0,7;k1,-2;+2,0,1;-3,0,1;*4,0,1;/5,0,1;%6,0,1;o2;o3;o4;o5;o6;", "5 9 -14 -3 1");
    puts("k0,-7;k1,2;/5,0,1;%6,0,1;o5;o6;", "-3 -1");
    puts("k0,-4;k1,7;&2,0,1;|3,0,1;^4,0,1;=5,0,1;<6,0,1;o2;o3;o4;o5;o6;", "4 -1 -5 0 1");
    puts("k0,7;=1,0,0;<2,0,0;o1;o2;", "1 0");
    puts("k0,5;-0,0,0;o0;", "0");
    for (char letter : new char[] {'/', '%'}) {
      String text = "k0,5;k1,N;" + letter + "2,0,1;";
      eq("by 0", ends(with(text.replace("N", "0")), 0), "z 2");
      eq("by 1", ends(with(text.replace("N", "1")), 0), "e 3");
      eq("by -1", ends(with(text.replace("N", "-1")), 0), "e 3");
      eq("0 by 0", ends(with(letter + "0,0,0;"), 0), "z 0");
      eq("0 by 1", ends(with("k1,1;" + letter + "2,0,1;"), 0), "e 2");
      for (char way : new char[] {'s', 't'}) {
        eq("by 0 by " + way, ends(way(way, text.replace("N", "0")), 0), "z 2");
      }
    }
  }

  private static void elements() {
    says("g v a: v becomes the element with the number a; s a b");
    for (int length = 1; length <= 6; length++) {
      for (int k : new int[] {-32768, -1, 0, length - 1, length, 32767}) {
        boolean isThere = k >= 0 && k < length;
        Pathwright get = with("k0," + k + ";g1,0;");
        get.limit(0, 'r', length);
        eq("g " + k + " of " + length, ends(get, 0), isThere ? "e 2" : "b 1");
        Pathwright set = with("k0," + k + ";k1,9;s0,1;g2,0;o2;");
        set.limit(0, 'r', length);
        eq("s " + k + " of " + length, ends(set, 0), isThere ? "e 5" : "b 2");
        eq("it becomes it", outs(set, 0), isThere ? "9" : "");
      }
    }
    puts("k1,5;s0,1;k1,6;s0,1;g2,0;o2;", "6");
    puts("k0,3;s0,0;g0,0;o0;", "3");
    // By 65536 a number of 32 digits does not come to the element 0.
    eq("far above by 32 digits", ends(with("k0,256;*6,0,0;g1,6;"), 0), "b 2");
    eq("far below by 32 digits", ends(with("k0,256;k1,-256;*6,0,1;s6,0;"), 0), "b 3");
  }

  private static void fieldsAndRecords() {
    says("f v r d: v becomes the field d of the record r.");
    puts("k0,5;p0,2,0;k0,6;p1,0,0;f1,0,2;f2,1,0;f3,1,1;o1;o2;o3;", "5 6 0");
    says("p r d a: the field d of the record r becomes a.");
    puts("k0,5;p1,2,0;p1,2,1;f3,1,2;o3;p1,2,0;f3,1,2;o3;", "0 5");
    says("r a b: all fields of the record a become those of the record b.");
    String six = "k0,1;p0,0,0;k0,2;p0,1,0;k0,3;p0,2,0;k0,4;p1,0,0;k0,5;p1,1,0;k0,6;p1,2,0;";
    String all = "f1,0,0;o1;f1,0,1;o1;f1,0,2;o1;f1,1,0;o1;f1,1,1;o1;f1,1,2;o1;";
    puts(six + "r0,1;" + all, "4 5 6 4 5 6");
    puts(six + "r1,0;" + all, "1 2 3 1 2 3");
    puts(six + "r0,0;" + all, "1 2 3 4 5 6");
    puts(six + "r1,1;" + all, "1 2 3 4 5 6");
  }

  private static void asked() {
    says("a v: the walk ends with a if v is 0.");
    eq("0", ends(with("a0;"), 0), "a 0");
    eq("1", ends(with("k0,1;a0;"), 0), "e 2");
    eq("-1", ends(with("k0,-1;a0;"), 0), "e 2");
    eq("the least", ends(with("k0,-32768;a0;"), 0), "e 2");
    eq("0 in the lower 16 of 32 digits", ends(with("k0,256;*6,0,0;a6;"), 0), "e 3");
    says("o v: v is put out.");
    puts("o0;k0,-1;o0;o7;", "0 -1 0");
    puts(LEAST + "o6;", "-2147483648");
  }

  private static void blocks() {
    says("? v: if v is not 0 the statements up to the : or . of this block");
    for (String merges : new String[] {"", "merging"}) {
      for (int n = -1; n <= 1; n++) {
        String k = "k0," + n + ";";
        boolean isNot = n != 0;
        String what = "by " + n + merges;
        eq(what, one(merges, k + "?0;k1,1;:;k1,2;.;o1;"), isNot ? "1" : "2");
        eq(what + " without :", one(merges, k + "?0;k1,1;.;o1;"), isNot ? "1" : "0");
        eq(what + " with nothing ahead of :", one(merges, k + "?0;:;k1,2;.;o1;"),
            isNot ? "0" : "2");
        eq(what + " with nothing behind :", one(merges, k + "?0;k1,1;:;.;o1;"),
            isNot ? "1" : "0");
        eq(what + " with nothing", one(merges, k + "?0;.;o1;"), "0");
        eq(what + " with nothing but :", one(merges, k + "?0;:;.;o1;"), "0");
        eq(what + " with o", one(merges, k + "?0;o0;:;o1;.;o2;"), isNot ? n + " 0" : "0 0");
        eq(what + " inside", one(merges, k + "?0;?1;k2,1;:;k2,2;.;:;?1;k2,3;:;k2,4;.;.;o2;"),
            isNot ? "2" : "4");
      }
      eq("six deep" + merges, one(merges, "k0,1;" + "?0;".repeat(6) + "k1,6;"
          + ":;k1,7;.;".repeat(6) + "o1;"), "6");
      eq("six deep on the other side" + merges, one(merges, "?0;:;".repeat(6) + "k1,6;"
          + ".;".repeat(6) + "o1;"), "6");
      eq("0 is asked once" + merges, one(merges, "k0,1;?0;k0,0;k1,1;:;k1,2;.;o1;"), "1");
    }
    eq("at the end of all", ends(with("?0;.;"), 0), "e 2");
    eq("the greatest number that is 0 by 16", outs(with("k0,256;*6,0,0;?6;o0;.;"), 0), "256");
  }

  private static String one(String merges, String text) {
    Pathwright x = with(text);
    x.merge(0, !merges.isEmpty());
    return outs(x, 0);
  }

  private static void loops() {
    says("w v: if v is not 0 the statements up to its . follow, and then this");
    puts("w0;o0;.;o1;", "0");
    puts("k0,1;k1,1;w0;o0;-0,0,1;.;o0;", "1 0");
    puts("k0,-3;k1,1;w0;o0;+0,0,1;.;o0;", "-3 -2 -1 0");
    puts("k0,2;k1,1;w0;k2,2;w2;o2;-2,2,1;.;-0,0,1;.;o0;", "2 1 2 1 0");
    puts("k0,2;k1,1;w0;-0,0,1;?0;o0;:;o7;.;.;o2;", "1 0 0");
    eq("at the end of all", ends(with("w0;.;"), 0), "e 2");
    eq("again and again", ends(with("k0,6;k1,1;w0;-0,0,1;.;"), 0), "e 5");
  }

  private static void bodies() {
    says("d n: the body of the function n, 0 to 2, up to its .; it is passed");
    for (int n = 0; n < 3; n++) {
      puts("d0;v1;.;d1;k1,1;v1;.;d2;k1,2;v1;.;x3,N,0;o3;".replace("N", "" + n), "" + n);
    }
    puts("o0;d1;o1;o1;.;o2;", "0 0");
    eq("nothing but it", ends(with("d1;o0;.;"), 0), "e 3");
    eq("nothing in it", ends(with("d1;.;x0,1,0;"), 0), "e 3");
    puts("x0,1,0;o0;d1;k1,7;v1;.;", "7");
    raises("3", ARGUMENT, fresh(), () -> with("d3;"));
  }

  private static void calls() {
    says("x v n a: the function n is called with a, and v becomes what it");
    puts("d1;k1,1;+0,0,1;v0;.;k0,5;x2,1,0;o0;o2;", "5 6");
    puts("d1;k1,1;+0,0,1;v0;.;k0,5;x0,1,0;o0;", "6");
    puts("d1;v0;.;k0,-32768;x7,1,0;o7;k0,32767;x7,1,0;o7;", "-32768 32767");
    says("v a: a is given, and the call ends; outside of all calls the walk");
    eq("outside", ends(with("v0;o0;"), 0), "e 0");
    eq("outside, in blocks", ends(with("k0,1;?0;w0;v0;.;.;"), 0), "e 3");
    eq("behind a call", ends(with("d0;v0;.;x1,0,0;v0;o0;"), 0), "e 4");
    puts("d0;v0;k7,9;o7;.;k0,3;x1,0,0;o1;", "3");
    puts("d0;?0;w0;v0;.;.;.;k0,3;x1,0,0;o1;", "3");
    puts("d0;x1,1,0;o1;v1;.;d1;v0;.;k0,4;x1,0,0;o1;", "4 4");
    says("Each call has variables of its own, 0 at first, but that its");
    StringBuilder own = new StringBuilder("d0;");
    for (int v = 0; v < 8; v++) {
      own.append("o").append(v).append(";k").append(v).append(",9;");
    }
    own.append(".;");
    String eight = "k0,1;k1,2;k2,3;k3,4;k4,5;k5,6;k6,7;k7,8;";
    puts(own + eight + "x0,0,1;", "2 0 0 0 0 0 0 0");
    puts("d0;k0,9;k1,9;k2,9;k3,9;k4,9;k5,9;k6,9;k7,9;.;" + eight
        + "x0,0,1;o0;o1;o2;o3;o4;o5;o6;o7;", "0 2 3 4 5 6 7 8");
    puts("d0;o1;o7;k1,9;k7,9;.;x0,0,0;x0,0,0;", "0 0 0 0");
    puts("d0;o0;k1,8;k7,9;x2,1,1;o1;o7;.;d1;o0;o1;o7;k1,3;k7,3;.;k0,5;x2,0,0;",
        "5 8 0 0 8 9");
    puts("d0;k1,3;s1,0;p1,2,0;.;k0,7;x1,0,0;k1,3;g2,1;o2;f2,1,2;o2;", "7 7");
    puts("d0;k1,3;g2,1;f3,1,2;+2,2,3;v2;.;k0,7;k1,3;s1,0;p1,2,0;x1,0,0;o1;", "14");
    says("A body that comes to its . gives 0.");
    puts("d0;k1,9;.;k3,7;x3,0,3;o3;", "0");
    puts("d0;.;k3,7;x3,0,3;o3;", "0");
    puts("d0;?0;v0;.;.;k3,7;x4,0,3;o4;x3,0,4;x3,0,0;o3;", "7 0");
  }

  private static void callsDeep() {
    says("Calls are at most three deep: a call inside of three ends the walk");
    String down = "d0;?0;k1,1;-0,0,1;x2,0,0;o0;.;.;k0,N;x3,0,0;o7;";
    puts(down.replace("N", "0"), "0");
    puts(down.replace("N", "1"), "0 0");
    puts(down.replace("N", "2"), "0 1 0");
    eq("three deep", ends(with(down.replace("N", "2")), 0), "e 11");
    eq("four deep", ends(with(down.replace("N", "3")), 0), "d 4");
    puts(down.replace("N", "3"), "");
    eq("one behind the other", ends(with("d0;.;" + "x0,0,0;".repeat(9)), 0), "e 11");
    eq("three deep again and again", outs(with("d0;x1,1,0;o1;x1,1,0;o1;.;d1;x1,2,0;v1;.;"
        + "d2;k1,5;v1;.;x1,0,0;o1;"), 0), "5 5 0");
    // By t the number that it is called with would end the walk with o.
    String wide = "d0;x1,1,0;.;d1;x1,2,0;.;d2;k1,32767;+6,1,1;x1,2,6;.;x1,0,0;";
    eq("ahead of o", ends(way('t', wide), 0), "d 9");
    eq("o where it is not too deep", ends(way('t',
        "d0;x1,1,0;.;d1;k1,32767;+6,1,1;x1,2,6;.;d2;.;x1,0,0;"), 0), "o 6");
  }
}
