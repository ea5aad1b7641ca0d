import java.io.IOException;
import java.util.List;

/**
 * Each refusal of each call, in scenes in which it can come: what it answers, which of two comes first, and that all that
 * can be seen of the object is as if the call had not been made. The same of each call that only asks.
 */
public final class RefusalsTest extends Look {
  private static final String RULE = "Refusals, the first that the call's words name; they change nothing:";

  private static void refused(String scene, long want, String... rows) {
    List<Long> without = Scene.of(scene).seen();
    for (String row : rows) {
      Scene s = Scene.of(scene);
      due(scene + ": " + row, s.call(row), want);
      same(scene + ": " + row, s.seen(), without);
    }
  }
  /** Asking changes nothing, whatever the answer is. */
  private static void asks(String scene, String... rows) {
    List<Long> without = Scene.of(scene).seen();
    for (String row : rows) {
      Scene s = Scene.of(scene);
      long first = s.call(row);
      due(scene + ": " + row + " again", s.call(row), first);
      same(scene + ": " + row, s.seen(), without);
    }
  }

  /** What is seen of a scene would show it, had a refused call changed something. */
  private static void changes(String scene, String... rows) {
    List<Long> without = Scene.of(scene).seen();
    for (String row : rows) {
      Scene s = Scene.of(scene);
      long answer = s.call(row);
      due(scene + ": " + row + " answers below 0, or nothing of it is seen", answer >= 0 && !s.seen().equals(without) ? 1 : 0, 1);
    }
  }
  private static void seenBySeen() {
    says(RULE);
    changes("plain", "set 0 0 3006", "set 1 0 37", "set 2 0 76", "set 2 2 4", "set 3 0 5", "set 3 2 1", "set 4 0 3", "set 4 2 5", "set 5 0 2",
        "set 5 2 1", "cup 0 0", "reason 0 0", "unsay", "reader 0 0", "feed 32", "feed 0", "force 0", "read 0 0", "read 2 2", "film 0 0",
        "film 3 0", "image", "back", "sheet 0 -1 0", "sheet 0 0 3", "sheet 0 1 3", "sheet 0 0 2", "sheet 3 0 0", "sheet 3 2 40", "cell 0 0 2",
        "cell 0 1 3", "cell 0 2 4", "cell 1 0 5", "cell 1 1 4", "cell 2 0 1", "cell 2 1 2", "cell 2 2 1", "cell 2 3 1", "cell 2 4 5",
        "copy 2 0 2 1 1", "copy 2 4 2 0 1", "house 0 0 0 1", "house 1 1 0 1");
    changes("full", "unsay", "set 2 5 5", "set 4 4 9", "cell 3 0 2", "cell 3 1 6", "cell 3 38 0", "cell 3 39 8", "cell 3 20 1", "back");
    changes("tape", "set 1 0 1", "force 0", "sheet 3 0 0");
    changes("texts", "force 5", "force 0", "feed 32", "read 0 0");
    changes("bare", "image", "feed 0", "cup 0 0", "reason 0 0", "reader 0 0", "sheet 0 0 0", "set 0 0 1", "set 1 0 1");
  }

  private static void sayingsCupsReasonsReaders() {
    says(RULE);
    refused("plain", BAD,
        "set -1 0 0", "set 6 0 0", "set MIN 0 0", "set MAX 0 0",
        "set 0 0 -1", "set 0 0 4096", "set 0 0 MIN", "set 0 0 MAX", "set 1 0 -1", "set 1 0 1000", "set 1 0 MIN", "set 1 0 MAX",
        "set 2 0 -1", "set 2 0 4096", "set 2 -1 0", "set 2 3 0", "set 2 MIN 0", "set 2 MAX 0",
        "set 3 0 -1", "set 3 0 12", "set 3 -1 0", "set 3 3 0", "set 3 MIN 0", "set 3 MAX 0",
        "set 4 0 -1", "set 4 0 10", "set 4 -1 0", "set 4 3 0", "set 4 MIN 0", "set 4 MAX 0",
        "set 5 0 -1", "set 5 0 100", "set 5 -1 0", "set 5 3 0", "set 5 MIN 0", "set 5 MAX 0");
    refused("bare", BAD, "set 2 0 0", "set 3 0 0", "set 4 0 0", "set 5 0 0", "set 6 0 0", "set 0 0 4096", "set 1 0 1000");
    refused("plain", BAD, "cup -1 0", "cup 4096 0", "cup 0 -1", "cup 0 12", "cup MIN 0", "cup MAX 0", "cup 0 MIN", "cup 0 MAX");
    refused("full", FULL, "cup 0 0", "cup 4095 11");
    refused("full", BAD, "cup -1 0", "cup 4096 0", "cup 0 -1", "cup 0 12");
    refused("plain", BAD, "reason -1 0", "reason 4096 0", "reason 0 -1", "reason 0 12", "reason 1 0", "reason 2048 11", "reason 4095 5",
        "reason MIN 0", "reason MAX 0", "reason 0 MIN", "reason 0 MAX", "reason 0 32", "reason 0 -32");
    refused("full", FULL, "reason 0 0", "reason 4094 0", "reason 2047 11");
    refused("full", BAD, "reason -1 0", "reason 4096 0", "reason 0 -1", "reason 0 12", "reason 1 0", "reason 2048 11");
    refused("bare", STATE, "unsay");
    refused("plain", BAD, "reader -1 0", "reader 6 0", "reader 0 -1", "reader 0 10", "reader MIN 0", "reader MAX 0", "reader 0 MIN", "reader 0 MAX");
    refused("full", FULL, "reader 0 0", "reader 5 9");
    refused("full", BAD, "reader -1 0", "reader 6 0", "reader 0 -1", "reader 0 10");
    refused("plain", BAD, "told 0 -1", "told 0 10", "told 0 MIN", "told 0 MAX", "told -1 2", "told 3 2", "told -1 3", "told 3 3", "told -1 4",
        "told 3 4", "told -1 5", "told 3 5", "told -1 6", "told 3 6", "told -1 7", "told 3 7", "told -1 8", "told 3 8", "told -1 9",
        "told 3 9", "told MIN 2", "told MAX 2", "told MIN 4", "told MAX 4", "told MIN 8", "told MAX 9");
    refused("full", BAD, "told 6 2", "told 6 3", "told 5 4", "told 5 5", "told 5 6", "told 5 7", "told 12 8", "told 12 9");
    refused("bare", BAD, "told 0 2", "told 0 3", "told 0 4", "told 0 5", "told 0 6", "told 0 7", "told 0 8", "told 0 9");
    asks("plain", "told 0 0", "told 99 1", "told 0 2", "told 2 3", "told 2 4", "told 1 5", "told 2 6", "told 0 7", "told 2 8", "told 0 9");
    refused("plain", BAD, "sees -1 0 0", "sees 3 0 0", "sees 0 -1 0", "sees 0 3 0", "sees 0 0 -1", "sees 0 0 3", "sees MIN 0 0", "sees MAX 0 0",
        "sees 0 MIN 0", "sees 0 MAX 0", "sees 0 0 MIN", "sees 0 0 MAX");
    refused("full", BAD, "sees 5 0 0", "sees 0 6 0");
    refused("bare", BAD, "sees 0 0 0");
    asks("plain", "sees 0 0 0", "sees 1 2 1", "sees 2 1 2");
  }

  private static void texts() {
    says(RULE);
    refused("plain", BAD, "feed -1", "feed 256", "feed MIN", "feed MAX");
    refused("tape", BAD, "feed -1", "feed 256");
    refused("tape", FULL, "feed 0", "feed 32", "feed 59", "feed 255");
    refused("texts", FULL, "text");
    refused("plain", BAD, "force -1", "force 2", "force MIN", "force MAX", "force 5");
    refused("texts", BAD, "force 6", "force -1");
    refused("bare", BAD, "force 1");
  }

  private static void reading() {
    says(RULE);
    refused("plain", BAD, "read -1 0", "read 3 0", "read 0 -1", "read 0 3", "read MIN 0", "read MAX 0", "read 0 MIN", "read 0 MAX");
    refused("bare", BAD, "read 0 0");
    // The hour is 999; in the full house there are twelve reasons, the first is an ARAB.
    refused("late", STATE, "read 0 0", "read 1 1", "read 2 2");
    refused("late", BAD, "read -1 0", "read 3 0", "read 0 -1", "read 0 3");
    refused("full", FULL, "read 0 0", "read 4 5");
    refused("full", BAD, "read -1 0", "read 5 0", "read 0 -1", "read 0 6");
    refused("plain", BAD, "follows -1 0", "follows 4096 0", "follows 0 -1", "follows 0 3", "follows MIN 0", "follows MAX 0", "follows 0 MIN",
        "follows 0 MAX");
    asks("plain", "follows 0 0", "follows 4095 0", "follows 7 1", "follows 0 1", "follows 4095 2", "follows 1 2");
    refused("plain", BAD, "best -1", "best 6", "best MIN", "best MAX");
    asks("plain", "best 0", "best 1", "best 2", "best 3", "best 4", "best 5");
    asks("full", "best 0", "best 1", "best 2", "best 3", "best 4", "best 5");
    asks("bare", "best 0", "best 1", "best 2", "best 3", "best 4", "best 5");
    refused("plain", BAD, "why -1 0", "why 12 0", "why 0 -1", "why 0 2", "why MIN 0", "why MAX 0", "why 0 MIN", "why 0 MAX");
    asks("plain", "why 0 0", "why 6 0", "why 6 1", "why 11 1");
    refused("plain", BAD, "next -1 0", "next 3 0", "next 0 -1", "next 0 3", "next MIN 0", "next MAX 0", "next 0 MIN", "next 0 MAX");
    refused("full", BAD, "next 5 0");
    refused("bare", BAD, "next 0 0", "next 0 1", "next 0 2");
    asks("plain", "next 0 0", "next 1 0", "next 2 1", "next 0 2");
    asks("full", "next 0 0", "next 1 1", "next 4 2");
    asks("late", "next 0 0", "next 0 1");
    refused("plain", BAD, "alike 0 0", "alike 2 2", "alike -1 0", "alike 0 -1", "alike 3 0", "alike 0 3", "alike MIN 0", "alike 0 MAX", "alike -1 -1");
    refused("full", BAD, "alike 5 0", "alike 0 5", "alike 4 4");
    refused("bare", BAD, "alike 0 0", "alike 0 1");
    asks("plain", "alike 0 1", "alike 2 0");
    refused("plain", NO, "share -1", "share 2", "share MIN", "share MAX");
    asks("plain", "share 0", "share 1");
  }

  private static void toldAndDrawn() {
    says(RULE);
    refused("plain", BAD, "tells -1 0 0", "tells 4 0 0", "tells 1 -1 0", "tells 1 3 0", "tells 1 0 -1", "tells 1 0 7", "tells MIN 0 0",
        "tells MAX 0 0", "tells 1 MIN 0", "tells 1 MAX 0", "tells 1 0 MIN", "tells 1 0 MAX");
    // Sheet 3 is missing; sheet 2 tells five, of three cups.
    refused("plain", BAD, "tells 3 -1 0", "tells 3 3 0", "tells 3 0 -1", "tells 3 0 7");
    refused("plain", NOTHING, "tells 3 0 0", "tells 3 2 1", "tells 3 0 6");
    refused("plain", BAD, "tells 2 0 0", "tells 2 0 1", "tells 2 0 2", "tells 2 0 3", "tells 2 0 4", "tells 2 0 5", "tells 2 2 6");
    asks("plain", "tells 0 0 0", "tells 0 0 1", "tells 0 0 2", "tells 0 0 3", "tells 0 0 4", "tells 0 0 5", "tells 0 0 6", "tells 1 2 0",
        "tells 1 2 1", "tells 1 2 2", "tells 1 2 3", "tells 1 2 4", "tells 1 2 5", "tells 1 2 6");
    refused("plain", BAD, "film -1 0", "film 4 0", "film 0 -1", "film 0 3", "film 3 -1", "film 3 3", "film MIN 0", "film MAX 0", "film 0 MIN",
        "film 0 MAX");
    refused("bare", BAD, "film 0 0");
    refused("plain", BAD, "drawn 0 -1", "drawn 0 13", "drawn 0 MIN", "drawn 0 MAX", "drawn MAX -1");
    asks("plain", "drawn 0 0", "drawn 0 12", "drawn 7 12", "drawn MIN 12", "drawn MAX 12");
    asks("late", "drawn 0 12", "drawn 7 12");
    asks("full", "drawn 7 12");
    refused("plain", NO, "chance 0 0 0 0", "chance 0 11 0 0", "chance 0 -1 0 0", "chance 0 1 -1 0", "chance 0 1 13 0", "chance 0 1 0 -1",
        "chance 0 1 0 2", "chance 0 MIN 0 0", "chance 0 MAX 0 0", "chance 0 1 MIN 0", "chance 0 1 MAX 0", "chance 0 1 0 MIN", "chance 0 1 0 MAX");
    asks("plain", "chance 0 10 4 0", "chance 0 10 4 1", "chance MAX 10 5 0");
    asks("late", "chance 0 10 4 0");
    refused("bare", STATE, "back");
    refused("texts", BAD, "count -1", "count 6", "count MIN", "count MAX");
    asks("plain", "count 0", "count 1", "count 2", "count 3", "count 4", "count 5");
  }

  private static void host() {
    says("BAD (-2: a number is none such or not as told), STATE (-3), FULL (-4); the host's: -11 nothing where something is asked, -12 a place outside, -13 a thing of another sort or KIND, -14 a size below 0.");
    refused("plain", BAD, "sheet -1 0 1", "sheet 4 0 1", "sheet 0 -2 1", "sheet 0 3 1", "sheet 0 0 41", "sheet 0 1 MAX", "sheet 0 2 41",
        "sheet MIN 0 1", "sheet MAX 0 1", "sheet 0 MIN 1", "sheet 0 MAX 1");
    refused("plain", BAD, "sheet -1 0 -1", "sheet 4 0 -1", "sheet 0 -2 -1", "sheet 0 3 -1", "sheet 4 -1 0", "sheet -1 -1 0");
    refused("plain", BELOW, "sheet 0 0 -1", "sheet 0 1 -1", "sheet 0 2 -1", "sheet 3 0 -1", "sheet 2 2 MIN");
    refused("plain", BAD, "cell -1 0 0", "cell 4 0 0", "cell MIN 0 0", "cell MAX 0 0", "cell -1 -1 0", "cell 4 9 9");
    refused("plain", NOTHING, "cell 3 0 0", "cell 3 -1 0", "cell 3 MAX 9");
    refused("plain", OUTSIDE, "cell 0 -1 5", "cell 0 3 5", "cell 1 2 5", "cell 2 5 5", "cell 0 MIN 5", "cell 0 MAX 5");
    refused("full", OUTSIDE, "cell 3 40 5", "cell 3 -1 5");
    refused("plain", BAD, "copy -1 0 0 0 1", "copy 4 0 0 0 1", "copy 0 0 -1 0 1", "copy 0 0 4 0 1", "copy MIN 0 0 0 1", "copy 0 0 MAX 0 1");
    refused("plain", BAD, "copy 3 0 4 0 1", "copy -1 0 3 0 1", "copy 4 -1 0 0 -1");
    refused("plain", NOTHING, "copy 3 0 0 0 1", "copy 0 0 3 0 1", "copy 3 0 3 0 0", "copy 3 -1 0 0 1", "copy 0 0 3 0 -1", "copy 3 0 1 9 9");
    refused("plain", OTHER, "copy 0 0 1 0 1", "copy 1 0 0 0 1", "copy 0 0 2 0 1", "copy 2 0 1 0 1", "copy 0 -1 1 0 1", "copy 0 0 1 0 -1",
        "copy 0 0 1 0 0", "copy 0 9 1 9 9");
    refused("plain", OUTSIDE, "copy 2 0 2 1 -1", "copy 2 -1 2 0 1", "copy 2 0 2 -1 1", "copy 2 5 2 0 1", "copy 2 0 2 5 1", "copy 2 6 2 0 0",
        "copy 2 0 2 6 0", "copy 2 0 2 1 5", "copy 2 1 2 0 5", "copy 2 0 2 0 6", "copy 2 1 2 0 MAX", "copy 2 MAX 2 0 1", "copy 2 0 2 MAX 1",
        "copy 2 MAX 2 MAX MAX", "copy 2 MIN 2 MIN MIN", "copy 2 0 2 0 MIN", "copy 2 MIN 2 0 0", "copy 2 0 2 MIN 0");
    refused("full", OUTSIDE, "copy 3 0 3 1 40", "copy 3 39 3 0 2", "copy 3 0 3 39 2", "copy 3 41 3 0 0");
    asks("plain", "copy 2 5 2 0 0", "copy 2 0 2 5 0", "copy 2 1 2 1 3", "copy 0 0 0 0 3");
    refused("plain", BAD, "house -1 0 0 1", "house 4 0 0 1", "house 0 -1 0 1", "house 0 3 0 1", "house 0 0 0 -1", "house 0 0 0 6",
        "house MIN 0 0 1", "house MAX 0 0 1", "house 0 MIN 0 1", "house 0 MAX 0 1", "house 0 0 0 MIN", "house 0 0 0 MAX");
    refused("plain", BAD, "house 3 -1 0 1", "house 3 3 0 1", "house 3 0 0 6", "house 3 0 0 -1", "house 0 1 0 6", "house 0 2 -1 -1");
    refused("plain", OTHER, "house 0 1 0 1", "house 0 2 0 1", "house 1 0 0 1", "house 1 2 0 1", "house 2 0 0 1", "house 2 1 0 1",
        "house 0 1 -1 1", "house 0 1 0 0", "house 2 1 9 5");
    refused("plain", NOTHING, "house 3 0 0 1", "house 3 1 0 0", "house 3 2 -1 5");
    refused("plain", OUTSIDE, "house 0 0 -1 1", "house 0 0 2 1", "house 0 0 3 1", "house 0 0 MIN 1", "house 0 0 MAX 1", "house 0 0 MAX 5",
        "house 0 0 -2 5", "house 0 0 -10 5", "house 0 0 MIN 5");
    asks("plain", "house 0 0 0 0", "house 0 0 -1 0", "house 0 0 99 0");
    // Five are there: all others are left out.
    asks("full", "house 3 0 0 5", "house 3 0 38 1", "house 3 0 39 1", "house 3 0 36 5");
    refused("plain", BAD, "taken 0 -1", "taken 0 6", "taken 0 MIN", "taken 0 MAX", "taken -1 -1", "taken 3 6");
    refused("plain", NOTHING, "taken -1 0", "taken 3 0", "taken MIN 5", "taken MAX 5");
    refused("full", NOTHING, "taken 5 0");
    refused("bare", NOTHING, "taken 0 0", "taken 0 5");
    refused("plain", OTHER, "taken 0 1", "taken 0 2", "taken 0 3", "taken 0 4", "taken 1 1", "taken 1 5", "taken 2 1", "taken 2 3", "taken 2 5");
    asks("plain", "taken 0 0", "taken 0 5", "taken 1 0", "taken 2 0", "taken 2 2", "taken 2 4");
  }

  public static void main(String[] args) throws IOException {
    seenBySeen();
    sayingsCupsReasonsReaders();
    texts();
    reading();
    toldAndDrawn();
    host();
    end(args);
  }
}
