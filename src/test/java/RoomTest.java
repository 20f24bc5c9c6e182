import java.lang.reflect.Array;
import java.lang.reflect.Field;
import java.lang.reflect.Modifier;
import java.util.ArrayDeque;
import java.util.Collections;
import java.util.IdentityHashMap;
import java.util.Set;

/**
 * What an object holds is little, and no call makes it hold more. (That nothing but texts and exceptions is made
 * outside constructors, LanguageTest looks at.)
 */
public final class RoomTest {
  private static final int MOST_OBJECTS = 100;
  private static final int MOST_ELEMENTS = 6000;

  private RoomTest() {
  }

  public static void main(String[] args) throws IllegalAccessException {
    Syndromehouse house = new Syndromehouse();
    int[] fresh = room(house);
    Due.is("objects and arrays are few: " + fresh[0], fresh[0] <= MOST_OBJECTS, true);
    Due.is("fields and elements are few: " + fresh[1], fresh[1] <= MOST_ELEMENTS, true);
    for (int round = 0; round < 4; round++) {
      use(house, round);
      int[] used = room(house);
      Due.is("objects and arrays behind round " + round, used[0], fresh[0]);
      Due.is("fields and elements behind round " + round, used[1], fresh[1]);
    }
    Due.end("RoomTest");
  }

  /** Some 80 calls, each method at least once. */
  private static void use(Syndromehouse house, int round) {
    for (int code = 0; code < 3; code++) {
      house.all(code, 9);
      house.zero(code, 3 + round);
      house.row(code, 5);
      house.check(code, 3);
      house.turn(code);
      house.longer(code);
      house.move(code, 0, 1);
      house.pierce(code, 1);
      house.text(code);
      house.like(code, 0);
      house.ways(code);
      house.chance(code, 1 + round, 20);
      house.ofCode(code, 11);
      house.weights(code, 1, true);
      house.nth(code, 0);
      house.syndrome(code, 1);
      house.leader(code, 0);
    }
    house.shifts(0, 7, 11);
    house.line(0, 0, false);
    house.copy(1, 0);
    house.blend(1, 0, true);
    house.shorter(1, 2);
    house.evaluated(2, 1, 1);
    house.join(2, 2);
    house.evaluated(1, 1, 0);
    house.multiply(1, 2);
    house.say(0, 9);
    house.flip(2);
    house.lose(1, true);
    house.doubt(3, 4);
    house.mend(0);
    house.byPlace(0);
    house.byDoubt(0);
    house.byRounds(0, 20);
    house.hear(8, 90);
    house.byVotes();
    house.within(0, 3);
    house.nearest(0, 0);
    house.letter(3);
    house.taps(7, 6);
    house.send(129, 8);
    house.spoil(19);
    house.walk(true);
    house.cost(1);
    house.stream();
    house.undo();
    house.knock();
    house.house(0);
    house.isSound();
    house.digest();
  }

  /** How many objects and arrays are held, and how many fields and elements these have. */
  private static int[] room(Object start) throws IllegalAccessException {
    Set<Object> seen = Collections.newSetFromMap(new IdentityHashMap<>());
    ArrayDeque<Object> open = new ArrayDeque<>();
    seen.add(start);
    open.add(start);
    int elements = 0;
    while (!open.isEmpty()) {
      Object each = open.remove();
      if (each.getClass().isArray()) {
        elements += Array.getLength(each);
        for (int i = 0; each instanceof Object[] && i < Array.getLength(each); i++) {
          reach(Array.get(each, i), seen, open);
        }
        continue;
      }
      for (Field field : each.getClass().getDeclaredFields()) {
        if (!Modifier.isStatic(field.getModifiers())) {
          elements++;
          field.setAccessible(true);
          if (!field.getType().isPrimitive()) {
            reach(field.get(each), seen, open);
          }
        }
      }
    }
    return new int[] {seen.size(), elements};
  }

  private static void reach(Object each, Set<Object> seen, ArrayDeque<Object> open) {
    if (each != null && seen.add(each)) {
      open.add(each);
    }
  }
}
