abbrev mtys (cI cZ : ClassId) : List (ClassId × FieldType) := [(cI, .int), (cZ, .boolean)]
def mA (q : Nat → Nat) (sz : Nat) : Nat → Prop := fun a => (∃ k, k < 21 ∧ a = q k) ∨ sz ≤ a
abbrev mJ (q : Nat → Nat) : Prop := ∀ i j, i < 21 → j < 21 → q i = q j → i = j
section MR
variable {p : Program} {l : Launch} {e : Env} {R : Room} {s : State} {m : MethodId} {args : Array Value} {below : List Frame} {meth : Method} {c : Code} {H : Heap} {locs : List Loc} {cells slots : Nat} {Q : State → Prop} {cc : ByteArray} {pc nL : Nat} {ls : Array Slot} {rest : List Value} {Ts : List Cond} {own : String}
variable {G : va_G} {cI cZ : ClassId} {q : Nat → Nat} {T : mT} {D : mD} {th : Int32}
end MR
section MC
variable {p : Program} {l : Launch} {e : Env} {R : Room} {s : State} {m : MethodId} {args : Array Value} {below : List Frame} {meth : Method} {c : Code} {H : Heap} {locs : List Loc} {cells slots : Nat} {Q : State → Prop} {cc : ByteArray} {pc nL : Nat} {ls : Array Slot} {rest : List Value} {Ts : List Cond} {own : String}
variable {G : va_G} {cI cZ : ClassId} {q : Nat → Nat} {T : mT} {D : mD} {th : Int32}
variable {y : MethodName} {ws ws2 : List Cond} {rm : Room} {as : List Value} {T2 : mT} {D2 : mD} {th2 : Int32} {maxL index n : Nat} {ret : Option FieldType} {bytes : ByteArray}
end MC
