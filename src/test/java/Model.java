final class Model {
}
