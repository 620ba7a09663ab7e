import java.util.ArrayList;
import java.util.List;

/** Every field of every point, as the pieces that a field is made of: what an object must have. */
final class WholeState {
    private record Piece(int field, int first, int value, int next) {
    }

    private final List<Piece> pieces = new ArrayList<>();

    WholeState(Plain plain) {
        for (int field = 0; field < Plain.FIELDS; field++) {
            for (int point = 0; point >= 0; point = plain.change(point, field)) {
                pieces.add(new Piece(field, point, plain.get(point, field), plain.change(point, field)));
            }
        }
    }

    void check(Checks checks, String where, PropertyTrie x) {
        for (Piece piece : pieces) {
            String at = "(" + piece.first + ", " + piece.field + ")";
            checks.due(where + "get" + at, x.get(piece.first, piece.field), piece.value);
            checks.due(where + "change" + at, x.change(piece.first, piece.field), piece.next);
        }
    }
}
