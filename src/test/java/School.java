import java.util.ArrayList;
import java.util.List;

/** A school as told, to be made anew as often as wanted, also with one thing in it other than it was told. */
record School(String boys, String benches, List<int[]> changes, List<int[]> sights) {
    School(String boys, String benches) {
        this(boys, benches, List.of(), List.of());
    }

    MarkedByNext made() {
        MarkedByNext x = Check.school(boys, benches);
        for (int[] c : changes) {
            x.change(c[0], c[1], c[2]);
        }
        for (int[] s : sights) {
            x.seen(s[0], s[1], s[2], s[3]);
        }
        return x;
    }

    School and(int day, int one, int other) {
        List<int[]> more = new ArrayList<>(changes);
        more.add(new int[] {day, one, other});
        return new School(boys, benches, more, sights);
    }

    School saw(int day, int boy, int subject, int much) {
        List<int[]> more = new ArrayList<>(sights);
        more.add(new int[] {day, boy, subject, much});
        return new School(boys, benches, changes, more);
    }

    /** With those CHANGES alone that these bits tell. */
    School with(int bits) {
        List<int[]> some = new ArrayList<>();
        for (int i = 0; i < changes.size(); i++) {
            if ((bits >> i & 1) != 0) {
                some.add(changes.get(i));
            }
        }
        return new School(boys, benches, some, sights);
    }

    /** With what is told of two SEATS the other way about; places are those of bytes. */
    School swapped(int one, int other) {
        StringBuilder s = new StringBuilder(benches);
        s.setCharAt(one, benches.charAt(other));
        s.setCharAt(other, benches.charAt(one));
        return new School(boys, s.toString(), changes, sights);
    }

    School withByte(int place, char b) {
        StringBuilder s = new StringBuilder(boys);
        s.setCharAt(place, b);
        return new School(s.toString(), benches, changes, sights);
    }

    /** With SUBJECT order[i] told as SUBJECT i. */
    School ordered(int... order) {
        StringBuilder s = new StringBuilder(boys);
        for (int boy = 0; boy < (boys.length() + 1) / 5; boy++) {
            for (int i = 0; i < 3; i++) {
                s.setCharAt(5 * boy + 1 + i, boys.charAt(5 * boy + 1 + order[i]));
            }
        }
        return new School(s.toString(), benches, changes, sights);
    }

    int byteOfSeat(int seat) {
        int left = seat;
        for (int i = 0; i < benches.length(); i++) {
            if (benches.charAt(i) != ';' && left-- == 0) {
                return i;
            }
        }
        return -1;
    }

    @Override
    public String toString() {
        StringBuilder s = new StringBuilder(boys).append(' ').append(benches);
        changes.forEach(c -> s.append(" change(").append(c[0]).append(", ").append(c[1]).append(", ").append(c[2]).append(')'));
        sights.forEach(c -> s.append(" seen(").append(c[0]).append(", ").append(c[1]).append(", ").append(c[2])
                .append(", ").append(c[3]).append(')'));
        return s.toString();
    }
}
