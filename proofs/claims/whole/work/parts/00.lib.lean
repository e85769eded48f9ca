/-! A name of the rest of the library, first of all, so that a round is read over the whole of it from its beginning -/
theorem zlib {B : Nat} (hB : 0 < B) (e q : Int) : 0 < FP.Core.unitsDen B e q := FP.Core.unitsDen_pos hB e q
