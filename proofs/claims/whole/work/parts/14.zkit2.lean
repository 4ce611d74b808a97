/-! Further rows over integers: switches. My own. -/
section ZR2
variable {p : Program} {l : Launch} {e : Env} {R : Room} {s : State} {m : MethodId} {args : Array Value} {below : List Frame} {meth : Method} {c : Code} {H : Heap} {locs : List Loc} {cells slots : Nat} {Q : State → Prop}
variable {cc : ByteArray} {pc : Nat} {ls : Array Slot} {rest : List Value} {a : Int}
theorem z_tabOut (hexec : p.tables.exec = Jvm.exec) (hb : c.code = cc) {dflt lo hi : Int} {offs : Array Int} {len tgt : Nat} (hdg : decode cc pc = .ok (.tableswitch dflt lo hi offs, len)) (ha : zb a) (h : a < lo ∨ hi < a) (ht : (pc : Int) + dflt = (tgt : Int))
    (k : W p l e R s m args below meth c H locs cells slots Q (F0 m tgt ls rest)) : W p l e R s m args below meth c H locs cells slots Q (F0 m pc ls (.int (iI a) :: rest)) :=
  lv_tableOut hexec hb hdg (by rw [iI_T ha]; exact h) ht k
theorem z_tabIn (hexec : p.tables.exec = Jvm.exec) (hb : c.code = cc) {dflt lo hi : Int} {offs : Array Int} {len tgt : Nat} {off : Int} (hdg : decode cc pc = .ok (.tableswitch dflt lo hi offs, len)) (ha : zb a) (j : Nat) (hj : a = lo + ((j : Nat) : Int)) (hh : ¬ hi < a) (ho : offs[j]? = some off) (ht : (pc : Int) + off = (tgt : Int))
    (k : W p l e R s m args below meth c H locs cells slots Q (F0 m tgt ls rest)) : W p l e R s m args below meth c H locs cells slots Q (F0 m pc ls (.int (iI a) :: rest)) :=
  lv_tableIn hexec hb hdg (by rw [iI_T ha]; omega) (by rw [iI_T ha]; exact hh) (by rw [iI_T ha, show (a - lo).toNat = j by omega]; exact ho) ht k
end ZR2
/-- a page may end ahead of a line: w, of the paragraph of the line before -/
abbrev p_may (pa sh : Nat → Int) (nl w : Nat) : Prop := (p_first pa w ∧ sh 6 = 0) ∨ (¬ p_first pa w ∧ sh 7 = 0 ∧ (sh 8 = 0 ∨ ¬ (p_first pa (w - 1) ∨ p_lastl pa nl w)))
