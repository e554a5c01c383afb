def slen (i : Nat) : Int := ((kSlen.getD i 0 : Nat) : Int)
def schar (i : Nat) (j : Int) : Int := ((kSbyt.getD i []).getD j.toNat 0).toInt
section KXS
variable {B : Bool} {G : KG} {X : KX} {l : Launch} {cc : ByteArray} {own : String} {nL : Nat} {ret : Option FieldType} {R : Room} {M : Mem} {pc : Nat} {lo : List (Option Value)} {st : List Value}
end KXS

