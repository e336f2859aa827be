import java.util.List;

/**
 * A part of a program: what it is, its name or what it says, where its first token is, where the sign
 * stands at which it is made equal, and its own parts.
 */
record Node(String kind, String says, int place, int sign, List<Node> parts) {
    static Node of(String kind, String says, int place, int sign, Node... parts) {
        return new Node(kind, says, place, sign, List.of(parts));
    }

    Node part(int k) {
        return parts.get(k);
    }

    Node last() {
        return parts.get(parts.size() - 1);
    }

    boolean is(String what) {
        return kind.equals(what);
    }
}
