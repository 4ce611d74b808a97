/-! Arrays.fill, and what the small writers do, as functions on the memory. My own. -/
def R_AR : String := "java/util/Arrays"
abbrev b_AR_fill : ByteArray := prog_17_method_103_code
def y_AR_fill : MethodName := ⟨"java/util/Arrays", "fill", "([II)V"⟩
def ws_AR_fill : List Cond := .code y_AR_fill b_AR_fill 4 none :: gt
theorem gt_SS {own : String} {idx : Nat} {y : MethodName} {b : ByteArray} {n : Nat} {r : Option FieldType} (h1 : Cond.methodLink own idx y ∈ gt) (h2 : Cond.static y ∈ gt) (h4 : Cond.initialized y.cls ∈ gt) (h5 : Cond.code y b n r ∈ gt) : GoodIn gt (va_wsS own idx y (Cond.code y b n r :: gt)) := by
  intro w hw
  unfold va_wsS at hw
  rcases List.mem_append.mp hw with h | h
  · simp only [List.mem_cons, List.not_mem_nil, or_false] at h
    rcases h with rfl | rfl | rfl
    · exact gt_good _ h1
    · exact gt_good _ h2
    · exact gt_good _ h4
  · rcases List.mem_cons.mp h with rfl | h
    · exact gt_good _ h5
    · exact gt_good _ h
section ZR9
variable {p : Program} {l : Launch} {e : Env} {R : Room} {s : State} {m : MethodId} {args : Array Value} {below : List Frame} {meth : Method} {c : Code} {H : Heap} {locs : List Loc} {cells slots : Nat} {Q : State → Prop}
variable {cc : ByteArray} {pc : Nat} {ls : Array Slot} {rest : List Value} {D : va_G} {cl : List vw_C} {tys : List (ClassId × FieldType)} {n : Nat} {ad : Nat → Nat} {ce : Nat → (Nat → Int) → va_E} {M : Nat → Nat → Int}
theorem z_alen (hexec : p.tables.exec = Jvm.exec) (hb : c.code = cc) (hK : va_K D cl tys s) (hP : va_P D cl (wlN n ad ce M) H) (k t0 : Nat) (hk : k < n) {cA : ClassId} {len : Nat} (hc : ∀ r, ce k r = .inl (cA, len, .inl (fun j => iI (r j)))) (ht : tys[t0]? = some (cA, .int)) (hdg : decode cc pc = .ok (.arraylength, 1))
    (kk : W p l e R s m args below meth c H locs cells slots Q (F0 m (pc + 1) ls (.int (iI ((len : Nat) : Int)) :: rest))) : W p l e R s m args below meth c H locs cells slots Q (F0 m pc ls (.ref (ad k) :: rest)) :=
  va_alen hexec hb hK hP k t0 (wl_atE hk (hc (M k))) ht (Int32.ofInt_eq_ofNat).symm hdg kk
end ZR9
def q_flr (r : Nat → Int) (v : Int) (t : Nat) : Nat → Int := fun j => if j < t then v else r j
theorem q_fl_step (M : Nat → Nat → Int) (k t : Nat) (v : Int) : mset (va_up M k (q_flr (M k) v t)) k t v = va_up M k (q_flr (M k) v (t + 1)) := by
  funext a b
  by_cases h : a = k
  · subst h
    unfold mset
    rw [va_up_self, va_up_self, va_up_self]
    unfold va_up q_flr
    by_cases hb : b = t
    · subst hb
      rw [if_pos rfl, if_pos (by omega)]
    · rw [if_neg hb]
      by_cases h2 : b < t
      · rw [if_pos h2, if_pos (by omega)]
      · rw [if_neg h2, if_neg (by omega)]
  · unfold mset
    rw [va_up_ne _ _ h, va_up_ne _ _ h, va_up_ne _ _ h]
theorem q_fl_0 (M : Nat → Nat → Int) (k : Nat) (v : Int) : va_up M k (q_flr (M k) v 0) = M := by
  have : q_flr (M k) v 0 = M k := by
    funext j
    unfold q_flr
    rw [if_neg (by omega)]
  rw [this, up_same]
def q_ren (M : Nat → Nat → Int) (i : Nat) (f : Int) : Nat → Nat → Int := mset (mset (mset (mset (va_up M (30 + 4 * i) (q_flr (M (30 + 4 * i)) 0 11)) (30 + 4 * i) 10 1) (29 + 4 * i) 3 0) (29 + 4 * i) 4 f) (29 + 4 * i) 5 f
def q_stp (M : Nat → Nat → Int) (i n : Nat) (x k : Int) : Nat → Nat → Int := mset (mset (mset M (31 + 4 * i) n x) (32 + 4 * i) n k) (29 + 4 * i) 3 (((n : Nat) : Int) + 1)
def q_apar (M : Nat → Nat → Int) (q : Nat) : Nat → Nat → Int := mset (q_ren M q (M 1 5)) 1 4 (((q : Nat) : Int) + 1)
def q_asgn (M : Nat → Nat → Int) (q n : Nat) (k w h : Int) : Nat → Nat → Int := mset (mset (mset (mset (mset M 7 n k) 8 n w) 9 n h) 1 5 (((n : Nat) : Int) + 1)) (29 + 4 * (q - 1)) 5 (((n : Nat) : Int) + 1)
def q_fg (M : Nat → Nat → Int) : Nat → Nat → Int := mset (mset (mset M 0 4 0) 3 2 0) 5 1 0
def q_clr (M : Nat → Nat → Int) : Nat → Nat → Int := q_fg (mset (mset M 1 4 0) 1 5 0)
/-- the class's whole layout -/
def q_lay (M : Nat → Nat → Int) (np : Nat) : Nat → Nat → Int := mset (q_fill (nlM (q_all np 0 (mset M 3 2 0))) 0 (mset (q_all np 0 (mset M 3 2 0)) 5 1 0)) 0 4 1
