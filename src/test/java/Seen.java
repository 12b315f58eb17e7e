/**
 * All that can be asked of an object, as one row of answers: two objects that stand alike answer
 * alike. It asks some 340 times, so what it is asked of may have had some 170 calls before.
 */
final class Seen {
  private final StringBuilder answers = new StringBuilder();
  private final HandedOn x;

  private Seen(HandedOn x) {
    this.x = x;
  }

  /** The object is of no more use then: at the end its TAPE is read, and it goes back to IMAGES. */
  static String of(HandedOn x) {
    Seen seen = new Seen(x);
    seen.people();
    seen.showings();
    seen.arts();
    seen.others();
    seen.tapeAndImages();
    return seen.answers.toString();
  }

  private void add(String call, int answer) {
    answers.append(call).append(" ").append(answer).append("\n");
  }

  private void people() {
    for (int one = 0; one < 8; one++) {
      for (int what = 0; what < 10; what++) {
        add("of " + one + " " + what, x.of(one, what));
      }
    }
  }

  private void showings() {
    for (int one = 0; one < 8; one++) {
      for (int art = 0; art < 5; art++) {
        add("behind 29 " + one + " " + art, x.behind(29, one, art));
        add("has 29 " + one + " " + art, x.has(29, one, art));
      }
      add("behind 0 " + one, x.behind(0, one, 0));
      add("spent 0 " + one, x.spent(0, one));
    }
    for (int i = 0; i < 60; i++) {
      add("why " + i, x.why(i));
    }
    for (int what = 0; what < 5; what++) {
      add("judge " + what, x.judge(what));
    }
  }

  private void arts() {
    for (int art = 0; art < 5; art++) {
      add("soonest " + art, x.soonest(art));
      add("first 0 " + art, x.first(art, 0));
      add("fewest 0 " + art, x.fewest(art, 0));
      add("fewest 1 " + art, x.fewest(art, 1));
      add("left " + art, x.left(art));
      add("best " + art, x.best(art));
      add("ring 0 " + art, x.ring(0, art));
    }
  }

  private void others() {
    for (int what = 0; what < 4; what++) {
      add("handed " + what, x.handed(0, 1, 0, what));
    }
    for (int i = -1; i < 5; i++) {
      add("order " + i, x.order(i));
    }
    for (int one = -1; one < 8; one++) {
      add("heard " + one, x.heard(one));
    }
    add("drawn 0 -1", x.drawn(0, -1));
    for (int one = 0; one < 8; one++) {
      add("drawn 6 " + one, x.drawn(6, one));
    }
    add("slack", x.slack());
    add("fault", x.fault());
    counts();
  }

  private void counts() {
    for (int what = 0; what < 5; what++) {
      add("count " + what, x.count(what));
    }
    add("count 10", x.count(10));
  }

  private void tapeAndImages() {
    add("row 0", x.row(0));
    for (int one = 0; one < 8; one++) {
      add("of " + one + " 5 behind row", x.of(one, 5));
    }
    for (int k = 0; k < 2; k++) {
      add("back " + k, x.back(k));
      counts();
    }
  }
}
