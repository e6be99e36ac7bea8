public final class SmokeTest {
    public static void main(String[] args) {
        Blueline hall = Hall.playing(0, 1);
        Hall.due("phase", hall.phase(), 'p');
        Hall.due("isSound", hall.isSound(), true);
        Hall.end("SmokeTest");
    }
}
