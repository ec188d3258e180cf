/** Something that is done with an object, and what it answered. */
interface Deed {
    Object on(CountedWorkshop x);
}
