/** What can be seen of an object without changing it. */
final class Looks {
    private Looks() {
    }

    static String of(Cubeyard yard) {
        StringBuilder looks = new StringBuilder();
        for (int place = 0; place < 8; place++) {
            looks.append(yard.volume(place)).append('/').append(yard.kind(place)).append('/');
            looks.append(yard.fine(place)).append(yard.isExact(place) ? "/" + yard.bits(place) : "").append(' ');
        }
        looks.append(yard.under(Integer.MAX_VALUE)).append(' ').append(yard.upperShare());
        return looks.append(' ').append(yard.checksum()).toString();
    }
}
