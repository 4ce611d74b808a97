set_option maxHeartbeats 4000000 in
set_option maxRecDepth 100000 in
theorem lr_layLine1 {p : Program} {l : Launch} {e : Env} {s : State} {m : MethodId} {args : Array Value} {below : List Frame} {meth : Method} {c : Code} {Q : State → Prop} {A : Nat → Prop} {H0 : Heap} {D : va_G} {ad : Nat → Nat} {cs : ClassId} {M : Nat → Nat → Int} (hx : p.tables.exec = Jvm.exec) (hb : c.code = b_MO_layLine) (hml : c.maxLocals = 18) (hg : ∀ w ∈ gt, w.before args s = true) (hown : s.vm.findClass R_MO = some m.cls) (hK : va_K D vwCl (mo_tys cs) s) (hA : ∀ q, H0.size ≤ q → A q) (a b so nl gt_ : Nat) (al rest hF_ : Int) (la : Bool) (hb6 : b ≤ 600) (hso : so ≤ 600) (hn6 : nl < 640) (hz : ∀ j, zb (M 6 j)) (h8 : ∀ j, 0 ≤ M 8 j ∧ M 8 j ≤ 2000) (kk : ∀ (H : Heap) (locs : List Loc) (ls : Array Slot), va_P D vwCl (mo_w ad cs (mset M 16 nl hF_)) H → va_D A (mo_w ad cs (mset M 16 nl hF_)) → va_S A H0 H locs → lv_has ls 18 [(10, .int (iI (((gt_ : Nat) : Int)))), (9, .int (iI (((so : Nat) : Int)))), (8, .int (iI (al))), (7, .int (iI (rest))), (5, .int (iI (((nl : Nat) : Int)))), (0, .ref (ad (0))), (2, .int (iI (((a : Nat) : Int)))), (3, .int (iI (((b : Nat) : Int)))), (4, .int (iI (bz (la = true) inferInstance)))] → W p l e ({ frames := 4, cells := 0, slots := 0, locals := 101 } : Room) s m args below meth c H locs 0 0 Q (F0 m 261 ls [])) : ∀ (f k g : Nat) (h : Int), (k + f = b ∨ (f = 0 ∧ b ≤ k)) → k ≤ 600 → 0 ≤ h ∧ h ≤ 2000 → r_mh (M 8) f k h = hF_ → r_gc (M 6) so f k g = gt_ → ∀ (H : Heap) (locs : List Loc) (ls : Array Slot), va_P D vwCl (mo_w ad cs (mset M 16 nl h)) H → va_D A (mo_w ad cs (mset M 16 nl h)) → va_S A H0 H locs → lv_has ls 18 [(11, .int (iI (((k : Nat) : Int)))), (10, .int (iI (((g : Nat) : Int)))), (9, .int (iI (((so : Nat) : Int)))), (8, .int (iI (al))), (7, .int (iI (rest))), (5, .int (iI (((nl : Nat) : Int)))), (0, .ref (ad (0))), (2, .int (iI (((a : Nat) : Int)))), (3, .int (iI (((b : Nat) : Int)))), (4, .int (iI (bz (la = true) inferInstance)))] → W p l e ({ frames := 4, cells := 0, slots := 0, locals := 101 } : Room) s m args below meth c H locs 0 0 Q (F0 m 165 ls []) := by
  intro f
  induction f with
  | zero =>
    intro k g h hkf hk6 hh he heg H locs ls hP hD hS hl
    obtain ⟨Mc, eMc⟩ : ∃ q_, q_ = mset M 16 nl h := ⟨_, rfl⟩
    rw [← eMc] at hP hD
    have g6 : Mc 6 = M 6 := by rw [eMc]; exact mset_ne (by omega)
    have g8 : Mc 8 = M 8 := by rw [eMc]; exact mset_ne (by omega)
    have g16 : Mc 16 nl = h := by rw [eMc]; exact mset_same _ _ _ _
    have h8k := h8 k
    have g8k : Mc 8 k = M 8 k := by rw [g8]
    have g6k : Mc 6 k = M 6 k := by rw [g6]
    have hz6 := hz k
    refine lv_iload hx hb d_MO_layLine_165 (lv_at hl 0 rfl) ?_
    refine lv_iload_n hx hb d_MO_layLine_167 rfl (lv_at hl 8 rfl) ?_
    refine z_icmp_ge hx hb (tgt := 261) d_MO_layLine_168 (by decide) ⟨by omega, by omega⟩ ⟨by omega, by omega⟩ (fun c_168 => ?_) (fun c_168 => ?_)
    · have he : h = hF_ := he
      have heg : g = gt_ := heg
      subst he
      subst heg
      rw [eMc] at hP hD
      exact kk H locs ls hP hD hS (lv_sub hl [1, 2, 3, 4, 5, 6, 7, 8, 9] rfl)
    · exact absurd c_168 (by omega)
  | succ f ih =>
    intro k g h hkf hk6 hh he heg H locs ls hP hD hS hl
    obtain ⟨Mc, eMc⟩ : ∃ q_, q_ = mset M 16 nl h := ⟨_, rfl⟩
    rw [← eMc] at hP hD
    have g6 : Mc 6 = M 6 := by rw [eMc]; exact mset_ne (by omega)
    have g8 : Mc 8 = M 8 := by rw [eMc]; exact mset_ne (by omega)
    have g16 : Mc 16 nl = h := by rw [eMc]; exact mset_same _ _ _ _
    have h8k := h8 k
    have g8k : Mc 8 k = M 8 k := by rw [g8]
    have g6k : Mc 6 k = M 6 k := by rw [g6]
    have hz6 := hz k
    refine lv_iload hx hb d_MO_layLine_165 (lv_at hl 0 rfl) ?_
    refine lv_iload_n hx hb d_MO_layLine_167 rfl (lv_at hl 8 rfl) ?_
    refine z_icmp_ge hx hb (tgt := 261) d_MO_layLine_168 (by decide) ⟨by omega, by omega⟩ ⟨by omega, by omega⟩ (fun c_168 => ?_) (fun c_168 => ?_)
    · exact absurd c_168 (by omega)
    · refine lv_aload_n hx hb d_MO_layLine_171 rfl (lv_at hl 6 rfl) ?_
      refine z_get (ci := 7) (C := R_MO) (T := T_MO) (N := 32) (v := .ref (ad (16))) hx hb hg in_MO hown hK hP (0) (by decide) rfl rfl 22 (by decide) (hg _ (List.mem_append_right _ (List.mem_append_right _ (List.mem_append_right _ (List.mem_append_right _ (List.mem_append_right _ (List.mem_append_right _ (List.mem_append_right _ (List.mem_append_right _ (List.mem_append_right _ (List.mem_append_right _ (List.mem_append_right _ (List.mem_append_right _ (List.mem_append_right _ (List.mem_append_left _ (List.mem_of_getElem? (i := 25) rfl)))))))))))))))) (fun _ h9 => h9) rfl d_MO_layLine_172 ?_
      refine lv_iload hx hb d_MO_layLine_175 (lv_at hl 5 rfl) ?_
      refine lv_aload_n hx hb d_MO_layLine_177 rfl (lv_at hl 6 rfl) ?_
      refine z_get (ci := 7) (C := R_MO) (T := T_MO) (N := 32) (v := .ref (ad (8))) hx hb hg in_MO hown hK hP (0) (by decide) rfl rfl 12 (by decide) (hg _ (List.mem_append_right _ (List.mem_append_right _ (List.mem_append_right _ (List.mem_append_right _ (List.mem_append_right _ (List.mem_append_right _ (List.mem_append_right _ (List.mem_append_right _ (List.mem_append_right _ (List.mem_append_right _ (List.mem_append_right _ (List.mem_append_right _ (List.mem_append_right _ (List.mem_append_left _ (List.mem_of_getElem? (i := 15) rfl)))))))))))))))) (fun _ h9 => h9) rfl d_MO_layLine_178 ?_
      refine lv_iload hx hb d_MO_layLine_181 (lv_at hl 0 rfl) ?_
      refine z_iald hx hb hK hP (8) 0 (by decide) (fun _ => rfl) rfl (k) rfl (by omega) (by decide) d_MO_layLine_183 ?_
      refine lv_aload_n hx hb d_MO_layLine_184 rfl (lv_at hl 6 rfl) ?_
      refine z_get (ci := 7) (C := R_MO) (T := T_MO) (N := 32) (v := .ref (ad (16))) hx hb hg in_MO hown hK hP (0) (by decide) rfl rfl 22 (by decide) (hg _ (List.mem_append_right _ (List.mem_append_right _ (List.mem_append_right _ (List.mem_append_right _ (List.mem_append_right _ (List.mem_append_right _ (List.mem_append_right _ (List.mem_append_right _ (List.mem_append_right _ (List.mem_append_right _ (List.mem_append_right _ (List.mem_append_right _ (List.mem_append_right _ (List.mem_append_left _ (List.mem_of_getElem? (i := 25) rfl)))))))))))))))) (fun _ h9 => h9) rfl d_MO_layLine_185 ?_
      refine lv_iload hx hb d_MO_layLine_188 (lv_at hl 5 rfl) ?_
      refine z_iald hx hb hK hP (16) 0 (by decide) (fun _ => rfl) rfl (nl) rfl (by omega) (by decide) d_MO_layLine_190 ?_
      refine z_icmp_le hx hb (tgt := 204) d_MO_layLine_191 (by decide) ⟨by omega, by omega⟩ ⟨by omega, by omega⟩ (fun c_191 => ?_) (fun c_191 => ?_)
      · refine lv_aload_n hx hb d_MO_layLine_204 rfl (lv_at hl 6 rfl) ?_
        refine z_get (ci := 7) (C := R_MO) (T := T_MO) (N := 32) (v := .ref (ad (16))) hx hb hg in_MO hown hK hP (0) (by decide) rfl rfl 22 (by decide) (hg _ (List.mem_append_right _ (List.mem_append_right _ (List.mem_append_right _ (List.mem_append_right _ (List.mem_append_right _ (List.mem_append_right _ (List.mem_append_right _ (List.mem_append_right _ (List.mem_append_right _ (List.mem_append_right _ (List.mem_append_right _ (List.mem_append_right _ (List.mem_append_right _ (List.mem_append_left _ (List.mem_of_getElem? (i := 25) rfl)))))))))))))))) (fun _ h9 => h9) rfl d_MO_layLine_205 ?_
        refine lv_iload hx hb d_MO_layLine_208 (lv_at hl 5 rfl) ?_
        refine z_iald hx hb hK hP (16) 0 (by decide) (fun _ => rfl) rfl (nl) rfl (by omega) (by decide) d_MO_layLine_210 ?_
        obtain ⟨hv, ehv⟩ : ∃ q_, q_ = if h < M 8 k then M 8 k else h := ⟨_, rfl⟩
        have hvv : Mc (16) (nl) = hv := by rw [ehv]; split <;> omega
        refine lv_topi (fun y_ ey => ?_)
        have ey := ey.trans (congrArg iI hvv)
        subst ey
        refine z_iast hx hb hK hP hD hS (16) 0 (by decide) (fun _ => rfl) rfl (v := hv) (nl) rfl (by omega) (by decide) d_MO_layLine_211 (fun H locs hP hD hS => ?_)
        obtain ⟨M_1, eM_1⟩ : ∃ q_, q_ = mset Mc (16) (nl) (hv) := ⟨_, rfl⟩
        have hP : va_P D vwCl (mo_w ad cs M_1) H := by rw [eM_1]; exact hP
        have hD : va_D A (mo_w ad cs M_1) := by rw [eM_1]; exact hD
        have hM1 : M_1 = mset M 16 nl hv := by rw [eM_1, eMc, mset_mset]
        have q6 : M_1 6 k = M 6 k := by rw [hM1, mset_ne (by omega)]
        refine lv_aload_n hx hb d_MO_layLine_212 rfl (lv_at hl 6 rfl) ?_
        refine z_get (ci := 7) (C := R_MO) (T := T_MO) (N := 32) (v := .ref (ad (6))) hx hb hg in_MO hown hK hP (0) (by decide) rfl rfl 10 (by decide) (hg _ (List.mem_append_right _ (List.mem_append_right _ (List.mem_append_right _ (List.mem_append_right _ (List.mem_append_right _ (List.mem_append_right _ (List.mem_append_right _ (List.mem_append_right _ (List.mem_append_right _ (List.mem_append_right _ (List.mem_append_right _ (List.mem_append_right _ (List.mem_append_right _ (List.mem_append_left _ (List.mem_of_getElem? (i := 13) rfl)))))))))))))))) (fun _ h9 => h9) rfl d_MO_layLine_213 ?_
        refine lv_iload hx hb d_MO_layLine_216 (lv_at hl 0 rfl) ?_
        refine z_iald hx hb hK hP (6) 0 (by decide) (fun _ => rfl) rfl (k) rfl (by omega) (by decide) d_MO_layLine_218 ?_
        refine z_iconst hx hb (z := 2) d_MO_layLine_219 ?_
        refine z_icmp_ne hx hb (tgt := 227) d_MO_layLine_220 (by decide) (by rw [q6]; exact hz6) ⟨by decide, by decide⟩ (fun c_220 => ?_) (fun c_220 => ?_)
        · refine lv_iload hx hb d_MO_layLine_227 (lv_at hl 1 rfl) ?_
          refine lv_aload_n hx hb d_MO_layLine_229 rfl (lv_at hl 6 rfl) ?_
          refine z_get (ci := 7) (C := R_MO) (T := T_MO) (N := 32) (v := .ref (ad (6))) hx hb hg in_MO hown hK hP (0) (by decide) rfl rfl 10 (by decide) (hg _ (List.mem_append_right _ (List.mem_append_right _ (List.mem_append_right _ (List.mem_append_right _ (List.mem_append_right _ (List.mem_append_right _ (List.mem_append_right _ (List.mem_append_right _ (List.mem_append_right _ (List.mem_append_right _ (List.mem_append_right _ (List.mem_append_right _ (List.mem_append_right _ (List.mem_append_left _ (List.mem_of_getElem? (i := 13) rfl)))))))))))))))) (fun _ h9 => h9) rfl d_MO_layLine_230 ?_
          refine lv_iload hx hb d_MO_layLine_233 (lv_at hl 0 rfl) ?_
          refine z_iald hx hb hK hP (6) 0 (by decide) (fun _ => rfl) rfl (k) rfl (by omega) (by decide) d_MO_layLine_235 ?_
          refine z_iconst hx hb (z := 1) d_MO_layLine_236 ?_
          refine z_icmp_ne hx hb (tgt := 251) d_MO_layLine_237 (by decide) (by rw [q6]; exact hz6) ⟨by decide, by decide⟩ (fun c_237 => ?_) (fun c_237 => ?_)
          · refine z_iconst hx hb (z := 0) d_MO_layLine_251 ?_
            refine z_iadd hx hb d_MO_layLine_252 (v := ((g + 0 : Nat) : Int)) (by omega) ?_
            refine lv_istore (lv' := [(10, .int (iI (((g + 0 : Nat) : Int)))), (11, .int (iI (((k : Nat) : Int)))), (9, .int (iI (((so : Nat) : Int)))), (8, .int (iI (al))), (7, .int (iI (rest))), (5, .int (iI (((nl : Nat) : Int)))), (0, .ref (ad (0))), (2, .int (iI (((a : Nat) : Int)))), (3, .int (iI (((b : Nat) : Int)))), (4, .int (iI (bz (la = true) inferInstance)))]) hx hb d_MO_layLine_253 hl (by decide) rfl (fun ls hl => ?_)
            refine z_iinc (v := ((k + 1 : Nat) : Int)) (lv' := [(11, .int (iI (((k + 1 : Nat) : Int)))), (10, .int (iI (((g + 0 : Nat) : Int)))), (9, .int (iI (((so : Nat) : Int)))), (8, .int (iI (al))), (7, .int (iI (rest))), (5, .int (iI (((nl : Nat) : Int)))), (0, .ref (ad (0))), (2, .int (iI (((a : Nat) : Int)))), (3, .int (iI (((b : Nat) : Int)))), (4, .int (iI (bz (la = true) inferInstance)))]) hx hb d_MO_layLine_255 hl (k := 1) rfl (by omega) (by decide) rfl (fun ls hl => ?_)
            refine lv_goto (tgt := 165) hx hb d_MO_layLine_258 (by decide) ?_
            rw [hM1] at hP hD
            exact ih (k + 1) (g + 0) hv (by omega) (by omega) (by rw [ehv]; split <;> omega) (by rw [← he, ehv]; rfl) (by rw [← heg]; conv => rhs; unfold r_gc; rw [if_neg (by rw [← q6]; exact c_220), if_neg (fun hh9 => c_237 (by rw [q6]; exact hh9.1))]) H locs ls hP hD hS (lv_sub hl [0, 1, 2, 3, 4, 5, 6, 7, 8, 9] rfl)
          · refine lv_iload hx hb d_MO_layLine_240 (lv_at hl 0 rfl) ?_
            refine lv_iload hx hb d_MO_layLine_242 (lv_at hl 2 rfl) ?_
            refine z_icmp_ge hx hb (tgt := 251) d_MO_layLine_244 (by decide) ⟨by omega, by omega⟩ ⟨by omega, by omega⟩ (fun c_244 => ?_) (fun c_244 => ?_)
            · refine z_iconst hx hb (z := 0) d_MO_layLine_251 ?_
              refine z_iadd hx hb d_MO_layLine_252 (v := ((g + 0 : Nat) : Int)) (by omega) ?_
              refine lv_istore (lv' := [(10, .int (iI (((g + 0 : Nat) : Int)))), (11, .int (iI (((k : Nat) : Int)))), (9, .int (iI (((so : Nat) : Int)))), (8, .int (iI (al))), (7, .int (iI (rest))), (5, .int (iI (((nl : Nat) : Int)))), (0, .ref (ad (0))), (2, .int (iI (((a : Nat) : Int)))), (3, .int (iI (((b : Nat) : Int)))), (4, .int (iI (bz (la = true) inferInstance)))]) hx hb d_MO_layLine_253 hl (by decide) rfl (fun ls hl => ?_)
              refine z_iinc (v := ((k + 1 : Nat) : Int)) (lv' := [(11, .int (iI (((k + 1 : Nat) : Int)))), (10, .int (iI (((g + 0 : Nat) : Int)))), (9, .int (iI (((so : Nat) : Int)))), (8, .int (iI (al))), (7, .int (iI (rest))), (5, .int (iI (((nl : Nat) : Int)))), (0, .ref (ad (0))), (2, .int (iI (((a : Nat) : Int)))), (3, .int (iI (((b : Nat) : Int)))), (4, .int (iI (bz (la = true) inferInstance)))]) hx hb d_MO_layLine_255 hl (k := 1) rfl (by omega) (by decide) rfl (fun ls hl => ?_)
              refine lv_goto (tgt := 165) hx hb d_MO_layLine_258 (by decide) ?_
              rw [hM1] at hP hD
              exact ih (k + 1) (g + 0) hv (by omega) (by omega) (by rw [ehv]; split <;> omega) (by rw [← he, ehv]; rfl) (by rw [← heg]; conv => rhs; unfold r_gc; rw [if_neg (by rw [← q6]; exact c_220), if_neg (fun hh9 => by omega)]) H locs ls hP hD hS (lv_sub hl [0, 1, 2, 3, 4, 5, 6, 7, 8, 9] rfl)
            · refine z_iconst hx hb (z := 1) d_MO_layLine_247 ?_
              refine lv_goto (tgt := 252) hx hb d_MO_layLine_248 (by decide) ?_
              refine z_iadd hx hb d_MO_layLine_252 (v := ((g + 1 : Nat) : Int)) (by omega) ?_
              refine lv_istore (lv' := [(10, .int (iI (((g + 1 : Nat) : Int)))), (11, .int (iI (((k : Nat) : Int)))), (9, .int (iI (((so : Nat) : Int)))), (8, .int (iI (al))), (7, .int (iI (rest))), (5, .int (iI (((nl : Nat) : Int)))), (0, .ref (ad (0))), (2, .int (iI (((a : Nat) : Int)))), (3, .int (iI (((b : Nat) : Int)))), (4, .int (iI (bz (la = true) inferInstance)))]) hx hb d_MO_layLine_253 hl (by decide) rfl (fun ls hl => ?_)
              refine z_iinc (v := ((k + 1 : Nat) : Int)) (lv' := [(11, .int (iI (((k + 1 : Nat) : Int)))), (10, .int (iI (((g + 1 : Nat) : Int)))), (9, .int (iI (((so : Nat) : Int)))), (8, .int (iI (al))), (7, .int (iI (rest))), (5, .int (iI (((nl : Nat) : Int)))), (0, .ref (ad (0))), (2, .int (iI (((a : Nat) : Int)))), (3, .int (iI (((b : Nat) : Int)))), (4, .int (iI (bz (la = true) inferInstance)))]) hx hb d_MO_layLine_255 hl (k := 1) rfl (by omega) (by decide) rfl (fun ls hl => ?_)
              refine lv_goto (tgt := 165) hx hb d_MO_layLine_258 (by decide) ?_
              rw [hM1] at hP hD
              exact ih (k + 1) (g + 1) hv (by omega) (by omega) (by rw [ehv]; split <;> omega) (by rw [← he, ehv]; rfl) (by rw [← heg]; conv => rhs; unfold r_gc; rw [if_neg (by rw [← q6]; exact c_220), if_pos ⟨by rw [← q6]; exact c_237, by omega⟩]) H locs ls hP hD hS (lv_sub hl [0, 1, 2, 3, 4, 5, 6, 7, 8, 9] rfl)
        · refine z_iconst hx hb (z := 0) d_MO_layLine_223 ?_
          refine lv_goto (tgt := 253) hx hb d_MO_layLine_224 (by decide) ?_
          refine lv_istore (lv' := [(10, .int (iI (0))), (11, .int (iI (((k : Nat) : Int)))), (9, .int (iI (((so : Nat) : Int)))), (8, .int (iI (al))), (7, .int (iI (rest))), (5, .int (iI (((nl : Nat) : Int)))), (0, .ref (ad (0))), (2, .int (iI (((a : Nat) : Int)))), (3, .int (iI (((b : Nat) : Int)))), (4, .int (iI (bz (la = true) inferInstance)))]) hx hb d_MO_layLine_253 hl (by decide) rfl (fun ls hl => ?_)
          refine z_iinc (v := ((k + 1 : Nat) : Int)) (lv' := [(11, .int (iI (((k + 1 : Nat) : Int)))), (10, .int (iI (0))), (9, .int (iI (((so : Nat) : Int)))), (8, .int (iI (al))), (7, .int (iI (rest))), (5, .int (iI (((nl : Nat) : Int)))), (0, .ref (ad (0))), (2, .int (iI (((a : Nat) : Int)))), (3, .int (iI (((b : Nat) : Int)))), (4, .int (iI (bz (la = true) inferInstance)))]) hx hb d_MO_layLine_255 hl (k := 1) rfl (by omega) (by decide) rfl (fun ls hl => ?_)
          refine lv_goto (tgt := 165) hx hb d_MO_layLine_258 (by decide) ?_
          rw [hM1] at hP hD
          exact ih (k + 1) (0) hv (by omega) (by omega) (by rw [ehv]; split <;> omega) (by rw [← he, ehv]; rfl) (by rw [← heg]; conv => rhs; unfold r_gc; rw [if_pos (by rw [← q6]; exact c_220)]) H locs ls hP hD hS (lv_sub hl [0, 1, 2, 3, 4, 5, 6, 7, 8, 9] rfl)
      · refine lv_aload_n hx hb d_MO_layLine_194 rfl (lv_at hl 6 rfl) ?_
        refine z_get (ci := 7) (C := R_MO) (T := T_MO) (N := 32) (v := .ref (ad (8))) hx hb hg in_MO hown hK hP (0) (by decide) rfl rfl 12 (by decide) (hg _ (List.mem_append_right _ (List.mem_append_right _ (List.mem_append_right _ (List.mem_append_right _ (List.mem_append_right _ (List.mem_append_right _ (List.mem_append_right _ (List.mem_append_right _ (List.mem_append_right _ (List.mem_append_right _ (List.mem_append_right _ (List.mem_append_right _ (List.mem_append_right _ (List.mem_append_left _ (List.mem_of_getElem? (i := 15) rfl)))))))))))))))) (fun _ h9 => h9) rfl d_MO_layLine_195 ?_
        refine lv_iload hx hb d_MO_layLine_198 (lv_at hl 0 rfl) ?_
        refine z_iald hx hb hK hP (8) 0 (by decide) (fun _ => rfl) rfl (k) rfl (by omega) (by decide) d_MO_layLine_200 ?_
        refine lv_goto (tgt := 211) hx hb d_MO_layLine_201 (by decide) ?_
        obtain ⟨hv, ehv⟩ : ∃ q_, q_ = if h < M 8 k then M 8 k else h := ⟨_, rfl⟩
        have hvv : Mc (8) (k) = hv := by rw [ehv]; split <;> omega
        refine lv_topi (fun y_ ey => ?_)
        have ey := ey.trans (congrArg iI hvv)
        subst ey
        refine z_iast hx hb hK hP hD hS (16) 0 (by decide) (fun _ => rfl) rfl (v := hv) (nl) rfl (by omega) (by decide) d_MO_layLine_211 (fun H locs hP hD hS => ?_)
        obtain ⟨M_2, eM_2⟩ : ∃ q_, q_ = mset Mc (16) (nl) (hv) := ⟨_, rfl⟩
        have hP : va_P D vwCl (mo_w ad cs M_2) H := by rw [eM_2]; exact hP
        have hD : va_D A (mo_w ad cs M_2) := by rw [eM_2]; exact hD
        have hM1 : M_2 = mset M 16 nl hv := by rw [eM_2, eMc, mset_mset]
        have q6 : M_2 6 k = M 6 k := by rw [hM1, mset_ne (by omega)]
        refine lv_aload_n hx hb d_MO_layLine_212 rfl (lv_at hl 6 rfl) ?_
        refine z_get (ci := 7) (C := R_MO) (T := T_MO) (N := 32) (v := .ref (ad (6))) hx hb hg in_MO hown hK hP (0) (by decide) rfl rfl 10 (by decide) (hg _ (List.mem_append_right _ (List.mem_append_right _ (List.mem_append_right _ (List.mem_append_right _ (List.mem_append_right _ (List.mem_append_right _ (List.mem_append_right _ (List.mem_append_right _ (List.mem_append_right _ (List.mem_append_right _ (List.mem_append_right _ (List.mem_append_right _ (List.mem_append_right _ (List.mem_append_left _ (List.mem_of_getElem? (i := 13) rfl)))))))))))))))) (fun _ h9 => h9) rfl d_MO_layLine_213 ?_
        refine lv_iload hx hb d_MO_layLine_216 (lv_at hl 0 rfl) ?_
        refine z_iald hx hb hK hP (6) 0 (by decide) (fun _ => rfl) rfl (k) rfl (by omega) (by decide) d_MO_layLine_218 ?_
        refine z_iconst hx hb (z := 2) d_MO_layLine_219 ?_
        refine z_icmp_ne hx hb (tgt := 227) d_MO_layLine_220 (by decide) (by rw [q6]; exact hz6) ⟨by decide, by decide⟩ (fun c_220 => ?_) (fun c_220 => ?_)
        · refine lv_iload hx hb d_MO_layLine_227 (lv_at hl 1 rfl) ?_
          refine lv_aload_n hx hb d_MO_layLine_229 rfl (lv_at hl 6 rfl) ?_
          refine z_get (ci := 7) (C := R_MO) (T := T_MO) (N := 32) (v := .ref (ad (6))) hx hb hg in_MO hown hK hP (0) (by decide) rfl rfl 10 (by decide) (hg _ (List.mem_append_right _ (List.mem_append_right _ (List.mem_append_right _ (List.mem_append_right _ (List.mem_append_right _ (List.mem_append_right _ (List.mem_append_right _ (List.mem_append_right _ (List.mem_append_right _ (List.mem_append_right _ (List.mem_append_right _ (List.mem_append_right _ (List.mem_append_right _ (List.mem_append_left _ (List.mem_of_getElem? (i := 13) rfl)))))))))))))))) (fun _ h9 => h9) rfl d_MO_layLine_230 ?_
          refine lv_iload hx hb d_MO_layLine_233 (lv_at hl 0 rfl) ?_
          refine z_iald hx hb hK hP (6) 0 (by decide) (fun _ => rfl) rfl (k) rfl (by omega) (by decide) d_MO_layLine_235 ?_
          refine z_iconst hx hb (z := 1) d_MO_layLine_236 ?_
          refine z_icmp_ne hx hb (tgt := 251) d_MO_layLine_237 (by decide) (by rw [q6]; exact hz6) ⟨by decide, by decide⟩ (fun c_237 => ?_) (fun c_237 => ?_)
          · refine z_iconst hx hb (z := 0) d_MO_layLine_251 ?_
            refine z_iadd hx hb d_MO_layLine_252 (v := ((g + 0 : Nat) : Int)) (by omega) ?_
            refine lv_istore (lv' := [(10, .int (iI (((g + 0 : Nat) : Int)))), (11, .int (iI (((k : Nat) : Int)))), (9, .int (iI (((so : Nat) : Int)))), (8, .int (iI (al))), (7, .int (iI (rest))), (5, .int (iI (((nl : Nat) : Int)))), (0, .ref (ad (0))), (2, .int (iI (((a : Nat) : Int)))), (3, .int (iI (((b : Nat) : Int)))), (4, .int (iI (bz (la = true) inferInstance)))]) hx hb d_MO_layLine_253 hl (by decide) rfl (fun ls hl => ?_)
            refine z_iinc (v := ((k + 1 : Nat) : Int)) (lv' := [(11, .int (iI (((k + 1 : Nat) : Int)))), (10, .int (iI (((g + 0 : Nat) : Int)))), (9, .int (iI (((so : Nat) : Int)))), (8, .int (iI (al))), (7, .int (iI (rest))), (5, .int (iI (((nl : Nat) : Int)))), (0, .ref (ad (0))), (2, .int (iI (((a : Nat) : Int)))), (3, .int (iI (((b : Nat) : Int)))), (4, .int (iI (bz (la = true) inferInstance)))]) hx hb d_MO_layLine_255 hl (k := 1) rfl (by omega) (by decide) rfl (fun ls hl => ?_)
            refine lv_goto (tgt := 165) hx hb d_MO_layLine_258 (by decide) ?_
            rw [hM1] at hP hD
            exact ih (k + 1) (g + 0) hv (by omega) (by omega) (by rw [ehv]; split <;> omega) (by rw [← he, ehv]; rfl) (by rw [← heg]; conv => rhs; unfold r_gc; rw [if_neg (by rw [← q6]; exact c_220), if_neg (fun hh9 => c_237 (by rw [q6]; exact hh9.1))]) H locs ls hP hD hS (lv_sub hl [0, 1, 2, 3, 4, 5, 6, 7, 8, 9] rfl)
          · refine lv_iload hx hb d_MO_layLine_240 (lv_at hl 0 rfl) ?_
            refine lv_iload hx hb d_MO_layLine_242 (lv_at hl 2 rfl) ?_
            refine z_icmp_ge hx hb (tgt := 251) d_MO_layLine_244 (by decide) ⟨by omega, by omega⟩ ⟨by omega, by omega⟩ (fun c_244 => ?_) (fun c_244 => ?_)
            · refine z_iconst hx hb (z := 0) d_MO_layLine_251 ?_
              refine z_iadd hx hb d_MO_layLine_252 (v := ((g + 0 : Nat) : Int)) (by omega) ?_
              refine lv_istore (lv' := [(10, .int (iI (((g + 0 : Nat) : Int)))), (11, .int (iI (((k : Nat) : Int)))), (9, .int (iI (((so : Nat) : Int)))), (8, .int (iI (al))), (7, .int (iI (rest))), (5, .int (iI (((nl : Nat) : Int)))), (0, .ref (ad (0))), (2, .int (iI (((a : Nat) : Int)))), (3, .int (iI (((b : Nat) : Int)))), (4, .int (iI (bz (la = true) inferInstance)))]) hx hb d_MO_layLine_253 hl (by decide) rfl (fun ls hl => ?_)
              refine z_iinc (v := ((k + 1 : Nat) : Int)) (lv' := [(11, .int (iI (((k + 1 : Nat) : Int)))), (10, .int (iI (((g + 0 : Nat) : Int)))), (9, .int (iI (((so : Nat) : Int)))), (8, .int (iI (al))), (7, .int (iI (rest))), (5, .int (iI (((nl : Nat) : Int)))), (0, .ref (ad (0))), (2, .int (iI (((a : Nat) : Int)))), (3, .int (iI (((b : Nat) : Int)))), (4, .int (iI (bz (la = true) inferInstance)))]) hx hb d_MO_layLine_255 hl (k := 1) rfl (by omega) (by decide) rfl (fun ls hl => ?_)
              refine lv_goto (tgt := 165) hx hb d_MO_layLine_258 (by decide) ?_
              rw [hM1] at hP hD
              exact ih (k + 1) (g + 0) hv (by omega) (by omega) (by rw [ehv]; split <;> omega) (by rw [← he, ehv]; rfl) (by rw [← heg]; conv => rhs; unfold r_gc; rw [if_neg (by rw [← q6]; exact c_220), if_neg (fun hh9 => by omega)]) H locs ls hP hD hS (lv_sub hl [0, 1, 2, 3, 4, 5, 6, 7, 8, 9] rfl)
            · refine z_iconst hx hb (z := 1) d_MO_layLine_247 ?_
              refine lv_goto (tgt := 252) hx hb d_MO_layLine_248 (by decide) ?_
              refine z_iadd hx hb d_MO_layLine_252 (v := ((g + 1 : Nat) : Int)) (by omega) ?_
              refine lv_istore (lv' := [(10, .int (iI (((g + 1 : Nat) : Int)))), (11, .int (iI (((k : Nat) : Int)))), (9, .int (iI (((so : Nat) : Int)))), (8, .int (iI (al))), (7, .int (iI (rest))), (5, .int (iI (((nl : Nat) : Int)))), (0, .ref (ad (0))), (2, .int (iI (((a : Nat) : Int)))), (3, .int (iI (((b : Nat) : Int)))), (4, .int (iI (bz (la = true) inferInstance)))]) hx hb d_MO_layLine_253 hl (by decide) rfl (fun ls hl => ?_)
              refine z_iinc (v := ((k + 1 : Nat) : Int)) (lv' := [(11, .int (iI (((k + 1 : Nat) : Int)))), (10, .int (iI (((g + 1 : Nat) : Int)))), (9, .int (iI (((so : Nat) : Int)))), (8, .int (iI (al))), (7, .int (iI (rest))), (5, .int (iI (((nl : Nat) : Int)))), (0, .ref (ad (0))), (2, .int (iI (((a : Nat) : Int)))), (3, .int (iI (((b : Nat) : Int)))), (4, .int (iI (bz (la = true) inferInstance)))]) hx hb d_MO_layLine_255 hl (k := 1) rfl (by omega) (by decide) rfl (fun ls hl => ?_)
              refine lv_goto (tgt := 165) hx hb d_MO_layLine_258 (by decide) ?_
              rw [hM1] at hP hD
              exact ih (k + 1) (g + 1) hv (by omega) (by omega) (by rw [ehv]; split <;> omega) (by rw [← he, ehv]; rfl) (by rw [← heg]; conv => rhs; unfold r_gc; rw [if_neg (by rw [← q6]; exact c_220), if_pos ⟨by rw [← q6]; exact c_237, by omega⟩]) H locs ls hP hD hS (lv_sub hl [0, 1, 2, 3, 4, 5, 6, 7, 8, 9] rfl)
        · refine z_iconst hx hb (z := 0) d_MO_layLine_223 ?_
          refine lv_goto (tgt := 253) hx hb d_MO_layLine_224 (by decide) ?_
          refine lv_istore (lv' := [(10, .int (iI (0))), (11, .int (iI (((k : Nat) : Int)))), (9, .int (iI (((so : Nat) : Int)))), (8, .int (iI (al))), (7, .int (iI (rest))), (5, .int (iI (((nl : Nat) : Int)))), (0, .ref (ad (0))), (2, .int (iI (((a : Nat) : Int)))), (3, .int (iI (((b : Nat) : Int)))), (4, .int (iI (bz (la = true) inferInstance)))]) hx hb d_MO_layLine_253 hl (by decide) rfl (fun ls hl => ?_)
          refine z_iinc (v := ((k + 1 : Nat) : Int)) (lv' := [(11, .int (iI (((k + 1 : Nat) : Int)))), (10, .int (iI (0))), (9, .int (iI (((so : Nat) : Int)))), (8, .int (iI (al))), (7, .int (iI (rest))), (5, .int (iI (((nl : Nat) : Int)))), (0, .ref (ad (0))), (2, .int (iI (((a : Nat) : Int)))), (3, .int (iI (((b : Nat) : Int)))), (4, .int (iI (bz (la = true) inferInstance)))]) hx hb d_MO_layLine_255 hl (k := 1) rfl (by omega) (by decide) rfl (fun ls hl => ?_)
          refine lv_goto (tgt := 165) hx hb d_MO_layLine_258 (by decide) ?_
          rw [hM1] at hP hD
          exact ih (k + 1) (0) hv (by omega) (by omega) (by rw [ehv]; split <;> omega) (by rw [← he, ehv]; rfl) (by rw [← heg]; conv => rhs; unfold r_gc; rw [if_pos (by rw [← q6]; exact c_220)]) H locs ls hP hD hS (lv_sub hl [0, 1, 2, 3, 4, 5, 6, 7, 8, 9] rfl)
set_option maxHeartbeats 4000000 in
set_option maxRecDepth 100000 in
theorem lr_layLine2 {p : Program} {l : Launch} {e : Env} {s : State} {m : MethodId} {args : Array Value} {below : List Frame} {meth : Method} {c : Code} {H : Heap} {locs : List Loc} {Q : State → Prop} {D : va_G} {ad : Nat → Nat} {cs : ClassId} {M : Nat → Nat → Int} (hx : p.tables.exec = Jvm.exec) (hb : c.code = b_MO_layLine) (hml : c.maxLocals = 18) (hg : ∀ w ∈ gt, w.before args s = true) (hown : s.vm.findClass R_MO = some m.cls) (hK : va_K D vwCl (mo_tys cs) s) (hP : va_P D vwCl (mo_w ad cs M) H) (a b so nl g t : Nat) (mv sp rest : Int) (hso : so ≤ 600) (hz : ∀ j, zb (M 6 j)) (kk : ∀ ls : Array Slot, lv_has ls 18 [(15, .int (iI (((t : Nat) : Int)))), (14, .int (iI (((g : Nat) : Int)))), (13, .int (iI (0))), (12, .int (iI (mv))), (11, .int (iI (sp))), (10, .int (iI (((g : Nat) : Int)))), (9, .int (iI (((so : Nat) : Int)))), (7, .int (iI (rest))), (5, .int (iI (((nl : Nat) : Int)))), (0, .ref (ad (0))), (2, .int (iI (((a : Nat) : Int)))), (3, .int (iI (((b : Nat) : Int))))] → W p l e ({ frames := 4, cells := 0, slots := 0, locals := 101 } : Room) s m args below meth c H locs 0 0 Q (F0 m 368 ls [])) : ∀ (f k cn : Nat) (ls : Array Slot), (k + f = so ∨ (f = 0 ∧ so ≤ k)) → k ≤ 600 → q_gc (M 6) f k cn = t → lv_has ls 18 [(16, .int (iI (((k : Nat) : Int)))), (15, .int (iI (((cn : Nat) : Int)))), (14, .int (iI (((g : Nat) : Int)))), (13, .int (iI (0))), (12, .int (iI (mv))), (11, .int (iI (sp))), (10, .int (iI (((g : Nat) : Int)))), (9, .int (iI (((so : Nat) : Int)))), (7, .int (iI (rest))), (5, .int (iI (((nl : Nat) : Int)))), (0, .ref (ad (0))), (2, .int (iI (((a : Nat) : Int)))), (3, .int (iI (((b : Nat) : Int))))] → W p l e ({ frames := 4, cells := 0, slots := 0, locals := 101 } : Room) s m args below meth c H locs 0 0 Q (F0 m 334 ls []) := by
  intro f
  induction f with
  | zero =>
    intro k cn ls hf hk6 he hl
    refine lv_iload hx hb d_MO_layLine_334 (lv_at hl 0 rfl) ?_
    refine lv_iload hx hb d_MO_layLine_336 (lv_at hl 7 rfl) ?_
    refine z_icmp_ge hx hb (tgt := 368) d_MO_layLine_338 (by decide) ⟨by omega, by omega⟩ ⟨by omega, by omega⟩ (fun c_338 => ?_) (fun c_338 => ?_)
    · have he : cn = t := he
      subst he
      exact kk ls (lv_sub hl [1, 2, 3, 4, 5, 6, 7, 8, 9, 10, 11, 12] rfl)
    · exact absurd c_338 (by omega)
  | succ f ih =>
    intro k cn ls hf hk6 he hl
    refine lv_iload hx hb d_MO_layLine_334 (lv_at hl 0 rfl) ?_
    refine lv_iload hx hb d_MO_layLine_336 (lv_at hl 7 rfl) ?_
    refine z_icmp_ge hx hb (tgt := 368) d_MO_layLine_338 (by decide) ⟨by omega, by omega⟩ ⟨by omega, by omega⟩ (fun c_338 => ?_) (fun c_338 => ?_)
    · exact absurd c_338 (by omega)
    · refine lv_iload hx hb d_MO_layLine_341 (lv_at hl 1 rfl) ?_
      refine lv_aload_n hx hb d_MO_layLine_343 rfl (lv_at hl 10 rfl) ?_
      refine z_get (ci := 7) (C := R_MO) (T := T_MO) (N := 32) (v := .ref (ad (6))) hx hb hg in_MO hown hK hP (0) (by decide) rfl rfl 10 (by decide) (hg _ (List.mem_append_right _ (List.mem_append_right _ (List.mem_append_right _ (List.mem_append_right _ (List.mem_append_right _ (List.mem_append_right _ (List.mem_append_right _ (List.mem_append_right _ (List.mem_append_right _ (List.mem_append_right _ (List.mem_append_right _ (List.mem_append_right _ (List.mem_append_right _ (List.mem_append_left _ (List.mem_of_getElem? (i := 13) rfl)))))))))))))))) (fun _ h9 => h9) rfl d_MO_layLine_344 ?_
      refine lv_iload hx hb d_MO_layLine_347 (lv_at hl 0 rfl) ?_
      refine z_iald hx hb hK hP (6) 0 (by decide) (fun _ => rfl) rfl (k) rfl (by omega) (by decide) d_MO_layLine_349 ?_
      refine z_iconst hx hb (z := 1) d_MO_layLine_350 ?_
      refine z_icmp_ne hx hb (tgt := 358) d_MO_layLine_351 (by decide) (hz _) ⟨by decide, by decide⟩ (fun c_351 => ?_) (fun c_351 => ?_)
      · refine z_iconst hx hb (z := 0) d_MO_layLine_358 ?_
        refine z_iadd hx hb d_MO_layLine_359 (v := ((cn + 0 : Nat) : Int)) (by omega) ?_
        refine lv_istore (lv' := [(15, .int (iI (((cn + 0 : Nat) : Int)))), (16, .int (iI (((k : Nat) : Int)))), (14, .int (iI (((g : Nat) : Int)))), (13, .int (iI (0))), (12, .int (iI (mv))), (11, .int (iI (sp))), (10, .int (iI (((g : Nat) : Int)))), (9, .int (iI (((so : Nat) : Int)))), (7, .int (iI (rest))), (5, .int (iI (((nl : Nat) : Int)))), (0, .ref (ad (0))), (2, .int (iI (((a : Nat) : Int)))), (3, .int (iI (((b : Nat) : Int))))]) hx hb d_MO_layLine_360 hl (by decide) rfl (fun ls hl => ?_)
        refine z_iinc (v := ((k + 1 : Nat) : Int)) (lv' := [(16, .int (iI (((k + 1 : Nat) : Int)))), (15, .int (iI (((cn + 0 : Nat) : Int)))), (14, .int (iI (((g : Nat) : Int)))), (13, .int (iI (0))), (12, .int (iI (mv))), (11, .int (iI (sp))), (10, .int (iI (((g : Nat) : Int)))), (9, .int (iI (((so : Nat) : Int)))), (7, .int (iI (rest))), (5, .int (iI (((nl : Nat) : Int)))), (0, .ref (ad (0))), (2, .int (iI (((a : Nat) : Int)))), (3, .int (iI (((b : Nat) : Int))))]) hx hb d_MO_layLine_362 hl (k := 1) rfl (by omega) (by decide) rfl (fun ls hl => ?_)
        refine lv_goto (tgt := 334) hx hb d_MO_layLine_365 (by decide) ?_
        exact ih (k + 1) (cn + 0) ls (by omega) (by omega) (by rw [← he]; conv => rhs; unfold q_gc; rw [if_neg c_351]) (lv_sub hl [0, 1, 2, 3, 4, 5, 6, 7, 8, 9, 10, 11, 12] rfl)
      · refine z_iconst hx hb (z := 1) d_MO_layLine_354 ?_
        refine lv_goto (tgt := 359) hx hb d_MO_layLine_355 (by decide) ?_
        refine z_iadd hx hb d_MO_layLine_359 (v := ((cn + 1 : Nat) : Int)) (by omega) ?_
        refine lv_istore (lv' := [(15, .int (iI (((cn + 1 : Nat) : Int)))), (16, .int (iI (((k : Nat) : Int)))), (14, .int (iI (((g : Nat) : Int)))), (13, .int (iI (0))), (12, .int (iI (mv))), (11, .int (iI (sp))), (10, .int (iI (((g : Nat) : Int)))), (9, .int (iI (((so : Nat) : Int)))), (7, .int (iI (rest))), (5, .int (iI (((nl : Nat) : Int)))), (0, .ref (ad (0))), (2, .int (iI (((a : Nat) : Int)))), (3, .int (iI (((b : Nat) : Int))))]) hx hb d_MO_layLine_360 hl (by decide) rfl (fun ls hl => ?_)
        refine z_iinc (v := ((k + 1 : Nat) : Int)) (lv' := [(16, .int (iI (((k + 1 : Nat) : Int)))), (15, .int (iI (((cn + 1 : Nat) : Int)))), (14, .int (iI (((g : Nat) : Int)))), (13, .int (iI (0))), (12, .int (iI (mv))), (11, .int (iI (sp))), (10, .int (iI (((g : Nat) : Int)))), (9, .int (iI (((so : Nat) : Int)))), (7, .int (iI (rest))), (5, .int (iI (((nl : Nat) : Int)))), (0, .ref (ad (0))), (2, .int (iI (((a : Nat) : Int)))), (3, .int (iI (((b : Nat) : Int))))]) hx hb d_MO_layLine_362 hl (k := 1) rfl (by omega) (by decide) rfl (fun ls hl => ?_)
        refine lv_goto (tgt := 334) hx hb d_MO_layLine_365 (by decide) ?_
        exact ih (k + 1) (cn + 1) ls (by omega) (by omega) (by rw [← he]; conv => rhs; unfold q_gc; rw [if_pos c_351]) (lv_sub hl [0, 1, 2, 3, 4, 5, 6, 7, 8, 9, 10, 11, 12] rfl)
set_option maxHeartbeats 4000000 in
set_option maxRecDepth 100000 in
theorem lr_layLine3 {p : Program} {l : Launch} {e : Env} {s : State} {m : MethodId} {args : Array Value} {below : List Frame} {meth : Method} {c : Code} {Q : State → Prop} {A : Nat → Prop} {H0 : Heap} {D : va_G} {ad : Nat → Nat} {cs : ClassId} {M : Nat → Nat → Int} (hx : p.tables.exec = Jvm.exec) (hb : c.code = b_MO_layLine) (hml : c.maxLocals = 18) (hg : ∀ w ∈ gt, w.before args s = true) (hown : s.vm.findClass R_MO = some m.cls) (hK : va_K D vwCl (mo_tys cs) s) (hA : ∀ q, H0.size ≤ q → A q) (a b so nl g : Nat) (sp rest : Int) (hb6 : b ≤ 600) (hso : so ≤ 600) (hg6 : g ≤ 600) (hsp : sp = 0 ∨ (sp = 1 ∧ 1 ≤ g)) (hre : 0 ≤ rest ∧ rest ≤ 30000) (hz : ∀ j, zb (M 6 j)) (MF : Nat → Nat → Int) (kk : ∀ (H : Heap) (locs : List Loc) (ls : Array Slot), va_P D vwCl (mo_w ad cs MF) H → va_D A (mo_w ad cs MF) → va_S A H0 H locs → lv_has ls 18 [(0, .ref (ad 0))] → W p l e ({ frames := 4, cells := 0, slots := 0, locals := 101 } : Room) s m args below meth c H locs 0 0 Q (F0 m 507 ls [])) : ∀ (f k : Nat) (mv gp bl : Int) (Mc : Nat → Nat → Int), (k + f = b ∨ (f = 0 ∧ b ≤ k)) → k ≤ 600 → 0 ≤ gp ∧ gp + ((f : Nat) : Int) ≤ 700 → ((f : Nat) : Int) - 700 ≤ bl ∧ bl ≤ 700 → eqb 21 23 Mc M → r_l3 (M 6) (M 9) (M 10) so g sp rest ((nl : Nat) : Int) f k mv gp bl Mc = MF → ∀ (H : Heap) (locs : List Loc) (ls : Array Slot), va_P D vwCl (mo_w ad cs Mc) H → va_D A (mo_w ad cs Mc) → va_S A H0 H locs → lv_has ls 18 [(16, .int (iI (((k : Nat) : Int)))), (15, .int (iI (bl))), (14, .int (iI (((g : Nat) : Int)))), (13, .int (iI (gp))), (12, .int (iI (mv))), (11, .int (iI (sp))), (10, .int (iI (((g : Nat) : Int)))), (9, .int (iI (((so : Nat) : Int)))), (7, .int (iI (rest))), (5, .int (iI (((nl : Nat) : Int)))), (0, .ref (ad (0))), (2, .int (iI (((a : Nat) : Int)))), (3, .int (iI (((b : Nat) : Int))))] → W p l e ({ frames := 4, cells := 0, slots := 0, locals := 101 } : Room) s m args below meth c H locs 0 0 Q (F0 m 371 ls []) := by
  intro f
  induction f with
  | zero =>
    intro k mv gp bl Mc hkf hk6 hgp hbl hsm he H locs ls hP hD hS hl
    have hz6 := hz k
    refine lv_iload hx hb d_MO_layLine_371 (lv_at hl 0 rfl) ?_
    refine lv_iload_n hx hb d_MO_layLine_373 rfl (lv_at hl 12 rfl) ?_
    refine z_icmp_ge hx hb (tgt := 507) d_MO_layLine_374 (by decide) ⟨by omega, by omega⟩ ⟨by omega, by omega⟩ (fun c_374 => ?_) (fun c_374 => ?_)
    · have he : Mc = MF := he
      subst he
      exact kk H locs ls hP hD hS (lv_sub hl [10] rfl)
    · exact absurd c_374 (by omega)
  | succ f ih =>
    intro k mv gp bl Mc hkf hk6 hgp hbl hsm he H locs ls hP hD hS hl
    have hz6 := hz k
    refine lv_iload hx hb d_MO_layLine_371 (lv_at hl 0 rfl) ?_
    refine lv_iload_n hx hb d_MO_layLine_373 rfl (lv_at hl 12 rfl) ?_
    refine z_icmp_ge hx hb (tgt := 507) d_MO_layLine_374 (by decide) ⟨by omega, by omega⟩ ⟨by omega, by omega⟩ (fun c_374 => ?_) (fun c_374 => ?_)
    · exact absurd c_374 (by omega)
    · refine lv_aload_n hx hb d_MO_layLine_377 rfl (lv_at hl 10 rfl) ?_
      refine z_get (ci := 7) (C := R_MO) (T := T_MO) (N := 32) (v := .ref (ad (21))) hx hb hg in_MO hown hK hP (0) (by decide) rfl rfl 27 (by decide) (hg _ (List.mem_append_right _ (List.mem_append_right _ (List.mem_append_right _ (List.mem_append_right _ (List.mem_append_right _ (List.mem_append_right _ (List.mem_append_right _ (List.mem_append_right _ (List.mem_append_right _ (List.mem_append_right _ (List.mem_append_right _ (List.mem_append_right _ (List.mem_append_right _ (List.mem_append_left _ (List.mem_of_getElem? (i := 30) rfl)))))))))))))))) (fun _ h9 => h9) rfl d_MO_layLine_378 ?_
      refine lv_iload hx hb d_MO_layLine_381 (lv_at hl 0 rfl) ?_
      refine lv_iload hx hb d_MO_layLine_383 (lv_at hl 9 rfl) ?_
      refine z_iast hx hb hK hP hD hS (21) 0 (by decide) (fun _ => rfl) rfl (v := ((nl : Nat) : Int)) (k) rfl (by omega) (by decide) d_MO_layLine_385 (fun H locs hP hD hS => ?_)
      obtain ⟨M_1, eM_1⟩ : ∃ q_, q_ = mset Mc (21) (k) (((nl : Nat) : Int)) := ⟨_, rfl⟩
      have hP : va_P D vwCl (mo_w ad cs M_1) H := by rw [eM_1]; exact hP
      have hD : va_D A (mo_w ad cs M_1) := by rw [eM_1]; exact hD
      have k9 : M_1 9 k = M 9 k := by rw [eM_1, mset_ne (by omega), hsm 9 (by omega)]
      refine lv_aload_n hx hb d_MO_layLine_386 rfl (lv_at hl 10 rfl) ?_
      refine z_get (ci := 7) (C := R_MO) (T := T_MO) (N := 32) (v := .ref (ad (22))) hx hb hg in_MO hown hK hP (0) (by decide) rfl rfl 28 (by decide) (hg _ (List.mem_append_right _ (List.mem_append_right _ (List.mem_append_right _ (List.mem_append_right _ (List.mem_append_right _ (List.mem_append_right _ (List.mem_append_right _ (List.mem_append_right _ (List.mem_append_right _ (List.mem_append_right _ (List.mem_append_right _ (List.mem_append_right _ (List.mem_append_right _ (List.mem_append_left _ (List.mem_of_getElem? (i := 31) rfl)))))))))))))))) (fun _ h9 => h9) rfl d_MO_layLine_387 ?_
      refine lv_iload hx hb d_MO_layLine_390 (lv_at hl 0 rfl) ?_
      refine lv_aload_n hx hb d_MO_layLine_392 rfl (lv_at hl 10 rfl) ?_
      refine z_get (ci := 7) (C := R_MO) (T := T_MO) (N := 32) (v := .ref (ad (9))) hx hb hg in_MO hown hK hP (0) (by decide) rfl rfl 13 (by decide) (hg _ (List.mem_append_right _ (List.mem_append_right _ (List.mem_append_right _ (List.mem_append_right _ (List.mem_append_right _ (List.mem_append_right _ (List.mem_append_right _ (List.mem_append_right _ (List.mem_append_right _ (List.mem_append_right _ (List.mem_append_right _ (List.mem_append_right _ (List.mem_append_right _ (List.mem_append_left _ (List.mem_of_getElem? (i := 16) rfl)))))))))))))))) (fun _ h9 => h9) rfl d_MO_layLine_393 ?_
      refine lv_iload hx hb d_MO_layLine_396 (lv_at hl 0 rfl) ?_
      refine z_iald hx hb hK hP (9) 0 (by decide) (fun _ => rfl) rfl (k) rfl (by omega) (by decide) d_MO_layLine_398 ?_
      refine lv_iload hx hb d_MO_layLine_399 (lv_at hl 4 rfl) ?_
      refine z_iadd hx hb d_MO_layLine_401 (v := (M_1 (9) (k) + mv)) rfl ?_
      refine z_iast hx hb hK hP hD hS (22) 0 (by decide) (fun _ => rfl) rfl (v := (M_1 (9) (k) + mv)) (k) rfl (by omega) (by decide) d_MO_layLine_402 (fun H locs hP hD hS => ?_)
      obtain ⟨M_2, eM_2⟩ : ∃ q_, q_ = mset M_1 (22) (k) ((M_1 (9) (k) + mv)) := ⟨_, rfl⟩
      have hP : va_P D vwCl (mo_w ad cs M_2) H := by rw [eM_2]; exact hP
      have hD : va_D A (mo_w ad cs M_2) := by rw [eM_2]; exact hD
      have k10 : M_2 10 k = M 10 k := by rw [eM_2, mset_ne (by omega), eM_1, mset_ne (by omega), hsm 10 (by omega)]
      refine lv_aload_n hx hb d_MO_layLine_403 rfl (lv_at hl 10 rfl) ?_
      refine z_get (ci := 7) (C := R_MO) (T := T_MO) (N := 32) (v := .ref (ad (23))) hx hb hg in_MO hown hK hP (0) (by decide) rfl rfl 29 (by decide) (hg _ (List.mem_append_right _ (List.mem_append_right _ (List.mem_append_right _ (List.mem_append_right _ (List.mem_append_right _ (List.mem_append_right _ (List.mem_append_right _ (List.mem_append_right _ (List.mem_append_right _ (List.mem_append_right _ (List.mem_append_right _ (List.mem_append_right _ (List.mem_append_right _ (List.mem_append_left _ (List.mem_of_getElem? (i := 32) rfl)))))))))))))))) (fun _ h9 => h9) rfl d_MO_layLine_404 ?_
      refine lv_iload hx hb d_MO_layLine_407 (lv_at hl 0 rfl) ?_
      refine lv_aload_n hx hb d_MO_layLine_409 rfl (lv_at hl 10 rfl) ?_
      refine z_get (ci := 7) (C := R_MO) (T := T_MO) (N := 32) (v := .ref (ad (10))) hx hb hg in_MO hown hK hP (0) (by decide) rfl rfl 14 (by decide) (hg _ (List.mem_append_right _ (List.mem_append_right _ (List.mem_append_right _ (List.mem_append_right _ (List.mem_append_right _ (List.mem_append_right _ (List.mem_append_right _ (List.mem_append_right _ (List.mem_append_right _ (List.mem_append_right _ (List.mem_append_right _ (List.mem_append_right _ (List.mem_append_right _ (List.mem_append_left _ (List.mem_of_getElem? (i := 17) rfl)))))))))))))))) (fun _ h9 => h9) rfl d_MO_layLine_410 ?_
      refine lv_iload hx hb d_MO_layLine_413 (lv_at hl 0 rfl) ?_
      refine z_iald hx hb hK hP (10) 0 (by decide) (fun _ => rfl) rfl (k) rfl (by omega) (by decide) d_MO_layLine_415 ?_
      refine z_iast hx hb hK hP hD hS (23) 0 (by decide) (fun _ => rfl) rfl (v := M_2 (10) (k)) (k) rfl (by omega) (by decide) d_MO_layLine_416 (fun H locs hP hD hS => ?_)
      obtain ⟨M_3, eM_3⟩ : ∃ q_, q_ = mset M_2 (23) (k) (M_2 (10) (k)) := ⟨_, rfl⟩
      have hP : va_P D vwCl (mo_w ad cs M_3) H := by rw [eM_3]; exact hP
      have hD : va_D A (mo_w ad cs M_3) := by rw [eM_3]; exact hD
      have hM3 : M_3 = mset (mset (mset Mc 21 k ((nl : Nat) : Int)) 22 k (M 9 k + mv)) 23 k (M 10 k) := by rw [eM_3, k10, eM_2, k9, eM_1]
      have k6 : M_3 6 k = M 6 k := by rw [hM3, mset_ne (by omega), mset_ne (by omega), mset_ne (by omega), hsm 6 (by omega)]
      have k23 : M_3 23 k = M 10 k := by rw [hM3]; exact mset_same _ _ _ _
      have hs3 : eqb 21 23 M_3 M := by rw [hM3]; exact eqb_set (eqb_set (eqb_set hsm (by omega) (by omega)) (by omega) (by omega)) (by omega) (by omega)
      refine lv_iload hx hb d_MO_layLine_417 (lv_at hl 5 rfl) ?_
      refine z_if_eq hx hb (tgt := 501) d_MO_layLine_419 (by decide) ⟨by omega, by omega⟩ (fun c_419 => ?_) (fun c_419 => ?_)
      · refine z_iinc (v := ((k + 1 : Nat) : Int)) (lv' := [(16, .int (iI (((k + 1 : Nat) : Int)))), (15, .int (iI (bl))), (14, .int (iI (((g : Nat) : Int)))), (13, .int (iI (gp))), (12, .int (iI (mv))), (11, .int (iI (sp))), (10, .int (iI (((g : Nat) : Int)))), (9, .int (iI (((so : Nat) : Int)))), (7, .int (iI (rest))), (5, .int (iI (((nl : Nat) : Int)))), (0, .ref (ad (0))), (2, .int (iI (((a : Nat) : Int)))), (3, .int (iI (((b : Nat) : Int))))]) hx hb d_MO_layLine_501 hl (k := 0) rfl (by omega) (by decide) rfl (fun ls hl => ?_)
        refine lv_goto (tgt := 371) hx hb d_MO_layLine_504 (by decide) ?_
        have hF : r_l3 (M 6) (M 9) (M 10) so g sp rest ((nl : Nat) : Int) f (k + 1) mv gp (bl) M_3 = MF := by rw [← he, hM3]; conv => rhs; unfold r_l3; rw [if_neg (fun h9 => h9.1 c_419)]
        exact ih (k + 1) mv gp (bl) M_3 (by omega) (by omega) (by omega) (by omega) hs3 hF H locs ls hP hD hS (lv_sub hl [0, 1, 2, 3, 4, 5, 6, 7, 8, 9, 10, 11, 12] rfl)
      · refine lv_aload_n hx hb d_MO_layLine_422 rfl (lv_at hl 10 rfl) ?_
        refine z_get (ci := 7) (C := R_MO) (T := T_MO) (N := 32) (v := .ref (ad (6))) hx hb hg in_MO hown hK hP (0) (by decide) rfl rfl 10 (by decide) (hg _ (List.mem_append_right _ (List.mem_append_right _ (List.mem_append_right _ (List.mem_append_right _ (List.mem_append_right _ (List.mem_append_right _ (List.mem_append_right _ (List.mem_append_right _ (List.mem_append_right _ (List.mem_append_right _ (List.mem_append_right _ (List.mem_append_right _ (List.mem_append_right _ (List.mem_append_left _ (List.mem_of_getElem? (i := 13) rfl)))))))))))))))) (fun _ h9 => h9) rfl d_MO_layLine_423 ?_
        refine lv_iload hx hb d_MO_layLine_426 (lv_at hl 0 rfl) ?_
        refine z_iald hx hb hK hP (6) 0 (by decide) (fun _ => rfl) rfl (k) rfl (by omega) (by decide) d_MO_layLine_428 ?_
        refine z_iconst hx hb (z := 1) d_MO_layLine_429 ?_
        refine z_icmp_ne hx hb (tgt := 501) d_MO_layLine_430 (by decide) (by rw [k6]; exact hz6) ⟨by decide, by decide⟩ (fun c_430 => ?_) (fun c_430 => ?_)
        · refine z_iinc (v := ((k + 1 : Nat) : Int)) (lv' := [(16, .int (iI (((k + 1 : Nat) : Int)))), (15, .int (iI (bl))), (14, .int (iI (((g : Nat) : Int)))), (13, .int (iI (gp))), (12, .int (iI (mv))), (11, .int (iI (sp))), (10, .int (iI (((g : Nat) : Int)))), (9, .int (iI (((so : Nat) : Int)))), (7, .int (iI (rest))), (5, .int (iI (((nl : Nat) : Int)))), (0, .ref (ad (0))), (2, .int (iI (((a : Nat) : Int)))), (3, .int (iI (((b : Nat) : Int))))]) hx hb d_MO_layLine_501 hl (k := 0) rfl (by omega) (by decide) rfl (fun ls hl => ?_)
          refine lv_goto (tgt := 371) hx hb d_MO_layLine_504 (by decide) ?_
          have hF : r_l3 (M 6) (M 9) (M 10) so g sp rest ((nl : Nat) : Int) f (k + 1) mv gp (bl) M_3 = MF := by rw [← he, hM3]; conv => rhs; unfold r_l3; rw [if_neg (fun h9 => c_430 (by rw [k6]; exact h9.2.1))]
          exact ih (k + 1) mv gp (bl) M_3 (by omega) (by omega) (by omega) (by omega) hs3 hF H locs ls hP hD hS (lv_sub hl [0, 1, 2, 3, 4, 5, 6, 7, 8, 9, 10, 11, 12] rfl)
        · refine lv_iload hx hb d_MO_layLine_433 (lv_at hl 0 rfl) ?_
          refine lv_iload hx hb d_MO_layLine_435 (lv_at hl 7 rfl) ?_
          refine z_icmp_lt hx hb (tgt := 443) d_MO_layLine_437 (by decide) ⟨by omega, by omega⟩ ⟨by omega, by omega⟩ (fun c_437 => ?_) (fun c_437 => ?_)
          · refine z_iinc (v := (bl - 1)) (lv' := [(15, .int (iI ((bl - 1)))), (16, .int (iI (((k : Nat) : Int)))), (14, .int (iI (((g : Nat) : Int)))), (13, .int (iI (gp))), (12, .int (iI (mv))), (11, .int (iI (sp))), (10, .int (iI (((g : Nat) : Int)))), (9, .int (iI (((so : Nat) : Int)))), (7, .int (iI (rest))), (5, .int (iI (((nl : Nat) : Int)))), (0, .ref (ad (0))), (2, .int (iI (((a : Nat) : Int)))), (3, .int (iI (((b : Nat) : Int))))]) hx hb d_MO_layLine_443 hl (k := 1) rfl (by omega) (by decide) rfl (fun ls hl => ?_)
            refine lv_iload hx hb d_MO_layLine_446 (lv_at hl 0 rfl) ?_
            refine lv_iload hx hb d_MO_layLine_448 (lv_at hl 2 rfl) ?_
            refine z_icmp_lt hx hb (tgt := 456) d_MO_layLine_450 (by decide) ⟨by omega, by omega⟩ ⟨by omega, by omega⟩ (fun c_450 => ?_) (fun c_450 => ?_)
            · have hg1 : 1 ≤ g := by omega
              have hrm := q_rem (r := rest) (g := g) (by omega) hg1
              refine lv_iload hx hb d_MO_layLine_456 (lv_at hl 8 rfl) ?_
              refine lv_iload hx hb d_MO_layLine_458 (lv_at hl 6 rfl) ?_
              refine z_idiv hx hb d_MO_layLine_460 ⟨by omega, by omega⟩ ⟨by omega, by omega⟩ (by omega) (v := ((rest).tdiv (((g : Nat) : Int)))) rfl ?_
              refine lv_iload hx hb d_MO_layLine_461 (lv_at hl 3 rfl) ?_
              refine lv_iload hx hb d_MO_layLine_463 (lv_at hl 8 rfl) ?_
              refine lv_iload hx hb d_MO_layLine_465 (lv_at hl 6 rfl) ?_
              refine z_irem hx hb d_MO_layLine_467 ⟨by omega, by omega⟩ ⟨by omega, by omega⟩ (by omega) (v := (rest - (rest).tdiv (((g : Nat) : Int)) * ((g : Nat) : Int))) rfl ?_
              refine z_icmp_ge hx hb (tgt := 475) d_MO_layLine_468 (by decide) ⟨by omega, by omega⟩ ⟨by omega, by omega⟩ (fun c_468 => ?_) (fun c_468 => ?_)
              · refine z_iconst hx hb (z := 0) d_MO_layLine_475 ?_
                refine z_iadd hx hb d_MO_layLine_476 (v := (((rest).tdiv (((g : Nat) : Int))) + 0)) rfl ?_
                refine lv_istore (lv' := [(17, .int (iI ((((rest).tdiv (((g : Nat) : Int))) + 0)))), (15, .int (iI ((bl - 1)))), (16, .int (iI (((k : Nat) : Int)))), (14, .int (iI (((g : Nat) : Int)))), (13, .int (iI (gp))), (12, .int (iI (mv))), (11, .int (iI (sp))), (10, .int (iI (((g : Nat) : Int)))), (9, .int (iI (((so : Nat) : Int)))), (7, .int (iI (rest))), (5, .int (iI (((nl : Nat) : Int)))), (0, .ref (ad (0))), (2, .int (iI (((a : Nat) : Int)))), (3, .int (iI (((b : Nat) : Int))))]) hx hb d_MO_layLine_477 hl (by decide) rfl (fun ls hl => ?_)
                refine z_iinc (v := (gp + 1)) (lv' := [(13, .int (iI ((gp + 1)))), (17, .int (iI ((((rest).tdiv (((g : Nat) : Int))) + 0)))), (15, .int (iI ((bl - 1)))), (16, .int (iI (((k : Nat) : Int)))), (14, .int (iI (((g : Nat) : Int)))), (12, .int (iI (mv))), (11, .int (iI (sp))), (10, .int (iI (((g : Nat) : Int)))), (9, .int (iI (((so : Nat) : Int)))), (7, .int (iI (rest))), (5, .int (iI (((nl : Nat) : Int)))), (0, .ref (ad (0))), (2, .int (iI (((a : Nat) : Int)))), (3, .int (iI (((b : Nat) : Int))))]) hx hb d_MO_layLine_479 hl (k := 4) rfl (by omega) (by decide) rfl (fun ls hl => ?_)
                refine lv_aload_n hx hb d_MO_layLine_482 rfl (lv_at hl 11 rfl) ?_
                refine z_get (ci := 7) (C := R_MO) (T := T_MO) (N := 32) (v := .ref (ad (23))) hx hb hg in_MO hown hK hP (0) (by decide) rfl rfl 29 (by decide) (hg _ (List.mem_append_right _ (List.mem_append_right _ (List.mem_append_right _ (List.mem_append_right _ (List.mem_append_right _ (List.mem_append_right _ (List.mem_append_right _ (List.mem_append_right _ (List.mem_append_right _ (List.mem_append_right _ (List.mem_append_right _ (List.mem_append_right _ (List.mem_append_right _ (List.mem_append_left _ (List.mem_of_getElem? (i := 32) rfl)))))))))))))))) (fun _ h9 => h9) rfl d_MO_layLine_483 ?_
                refine lv_iload hx hb d_MO_layLine_486 (lv_at hl 3 rfl) ?_
                refine lv_dup2_11 hx hb d_MO_layLine_488 rfl rfl ?_
                refine z_iald hx hb hK hP (23) 0 (by decide) (fun _ => rfl) rfl (k) rfl (by omega) (by decide) d_MO_layLine_489 ?_
                refine lv_iload hx hb d_MO_layLine_490 (lv_at hl 1 rfl) ?_
                refine z_iadd hx hb d_MO_layLine_492 (v := (M_3 (23) (k) + (((rest).tdiv (((g : Nat) : Int))) + 0))) rfl ?_
                refine z_iast hx hb hK hP hD hS (23) 0 (by decide) (fun _ => rfl) rfl (v := (M_3 (23) (k) + (((rest).tdiv (((g : Nat) : Int))) + 0))) (k) rfl (by omega) (by decide) d_MO_layLine_493 (fun H locs hP hD hS => ?_)
                obtain ⟨M_4, eM_4⟩ : ∃ q_, q_ = mset M_3 (23) (k) ((M_3 (23) (k) + (((rest).tdiv (((g : Nat) : Int))) + 0))) := ⟨_, rfl⟩
                have hP : va_P D vwCl (mo_w ad cs M_4) H := by rw [eM_4]; exact hP
                have hD : va_D A (mo_w ad cs M_4) := by rw [eM_4]; exact hD
                refine lv_iload hx hb d_MO_layLine_494 (lv_at hl 5 rfl) ?_
                refine lv_iload hx hb d_MO_layLine_496 (lv_at hl 1 rfl) ?_
                refine z_iadd hx hb d_MO_layLine_498 (v := (mv + (((rest).tdiv (((g : Nat) : Int))) + 0))) rfl ?_
                refine lv_istore (lv' := [(12, .int (iI ((mv + (((rest).tdiv (((g : Nat) : Int))) + 0))))), (13, .int (iI ((gp + 1)))), (17, .int (iI ((((rest).tdiv (((g : Nat) : Int))) + 0)))), (15, .int (iI ((bl - 1)))), (16, .int (iI (((k : Nat) : Int)))), (14, .int (iI (((g : Nat) : Int)))), (11, .int (iI (sp))), (10, .int (iI (((g : Nat) : Int)))), (9, .int (iI (((so : Nat) : Int)))), (7, .int (iI (rest))), (5, .int (iI (((nl : Nat) : Int)))), (0, .ref (ad (0))), (2, .int (iI (((a : Nat) : Int)))), (3, .int (iI (((b : Nat) : Int))))]) hx hb d_MO_layLine_499 hl (by decide) rfl (fun ls hl => ?_)
                refine z_iinc (v := ((k + 1 : Nat) : Int)) (lv' := [(16, .int (iI (((k + 1 : Nat) : Int)))), (12, .int (iI ((mv + (((rest).tdiv (((g : Nat) : Int))) + 0))))), (13, .int (iI ((gp + 1)))), (17, .int (iI ((((rest).tdiv (((g : Nat) : Int))) + 0)))), (15, .int (iI ((bl - 1)))), (14, .int (iI (((g : Nat) : Int)))), (11, .int (iI (sp))), (10, .int (iI (((g : Nat) : Int)))), (9, .int (iI (((so : Nat) : Int)))), (7, .int (iI (rest))), (5, .int (iI (((nl : Nat) : Int)))), (0, .ref (ad (0))), (2, .int (iI (((a : Nat) : Int)))), (3, .int (iI (((b : Nat) : Int))))]) hx hb d_MO_layLine_501 hl (k := 4) rfl (by omega) (by decide) rfl (fun ls hl => ?_)
                refine lv_goto (tgt := 371) hx hb d_MO_layLine_504 (by decide) ?_
                have hMM : M_4 = mset (mset (mset Mc 21 k ((nl : Nat) : Int)) 22 k (M 9 k + mv)) 23 k (M 10 k + (rest.tdiv ((g : Nat) : Int) + 0)) := by rw [eM_4, k23, hM3, mset_mset]
                have hF : r_l3 (M 6) (M 9) (M 10) so g sp rest ((nl : Nat) : Int) f (k + 1) (mv + (rest.tdiv ((g : Nat) : Int) + 0)) (gp + 1) (bl - 1) M_4 = MF := by rw [← he, hMM]; conv => rhs; unfold r_l3; rw [if_pos ⟨c_419, by rw [← k6]; exact c_430, by omega⟩, if_pos (by omega), if_neg (by omega)]
                exact ih (k + 1) (mv + (rest.tdiv ((g : Nat) : Int) + 0)) (gp + 1) (bl - 1) M_4 (by omega) (by omega) (by omega) (by omega) (by rw [eM_4]; exact eqb_set hs3 (by omega) (by omega)) hF H locs ls hP hD hS (lv_sub hl [0, 4, 5, 2, 1, 6, 7, 8, 9, 10, 11, 12, 13] rfl)
              · refine z_iconst hx hb (z := 1) d_MO_layLine_471 ?_
                refine lv_goto (tgt := 476) hx hb d_MO_layLine_472 (by decide) ?_
                refine z_iadd hx hb d_MO_layLine_476 (v := (((rest).tdiv (((g : Nat) : Int))) + 1)) rfl ?_
                refine lv_istore (lv' := [(17, .int (iI ((((rest).tdiv (((g : Nat) : Int))) + 1)))), (15, .int (iI ((bl - 1)))), (16, .int (iI (((k : Nat) : Int)))), (14, .int (iI (((g : Nat) : Int)))), (13, .int (iI (gp))), (12, .int (iI (mv))), (11, .int (iI (sp))), (10, .int (iI (((g : Nat) : Int)))), (9, .int (iI (((so : Nat) : Int)))), (7, .int (iI (rest))), (5, .int (iI (((nl : Nat) : Int)))), (0, .ref (ad (0))), (2, .int (iI (((a : Nat) : Int)))), (3, .int (iI (((b : Nat) : Int))))]) hx hb d_MO_layLine_477 hl (by decide) rfl (fun ls hl => ?_)
                refine z_iinc (v := (gp + 1)) (lv' := [(13, .int (iI ((gp + 1)))), (17, .int (iI ((((rest).tdiv (((g : Nat) : Int))) + 1)))), (15, .int (iI ((bl - 1)))), (16, .int (iI (((k : Nat) : Int)))), (14, .int (iI (((g : Nat) : Int)))), (12, .int (iI (mv))), (11, .int (iI (sp))), (10, .int (iI (((g : Nat) : Int)))), (9, .int (iI (((so : Nat) : Int)))), (7, .int (iI (rest))), (5, .int (iI (((nl : Nat) : Int)))), (0, .ref (ad (0))), (2, .int (iI (((a : Nat) : Int)))), (3, .int (iI (((b : Nat) : Int))))]) hx hb d_MO_layLine_479 hl (k := 4) rfl (by omega) (by decide) rfl (fun ls hl => ?_)
                refine lv_aload_n hx hb d_MO_layLine_482 rfl (lv_at hl 11 rfl) ?_
                refine z_get (ci := 7) (C := R_MO) (T := T_MO) (N := 32) (v := .ref (ad (23))) hx hb hg in_MO hown hK hP (0) (by decide) rfl rfl 29 (by decide) (hg _ (List.mem_append_right _ (List.mem_append_right _ (List.mem_append_right _ (List.mem_append_right _ (List.mem_append_right _ (List.mem_append_right _ (List.mem_append_right _ (List.mem_append_right _ (List.mem_append_right _ (List.mem_append_right _ (List.mem_append_right _ (List.mem_append_right _ (List.mem_append_right _ (List.mem_append_left _ (List.mem_of_getElem? (i := 32) rfl)))))))))))))))) (fun _ h9 => h9) rfl d_MO_layLine_483 ?_
                refine lv_iload hx hb d_MO_layLine_486 (lv_at hl 3 rfl) ?_
                refine lv_dup2_11 hx hb d_MO_layLine_488 rfl rfl ?_
                refine z_iald hx hb hK hP (23) 0 (by decide) (fun _ => rfl) rfl (k) rfl (by omega) (by decide) d_MO_layLine_489 ?_
                refine lv_iload hx hb d_MO_layLine_490 (lv_at hl 1 rfl) ?_
                refine z_iadd hx hb d_MO_layLine_492 (v := (M_3 (23) (k) + (((rest).tdiv (((g : Nat) : Int))) + 1))) rfl ?_
                refine z_iast hx hb hK hP hD hS (23) 0 (by decide) (fun _ => rfl) rfl (v := (M_3 (23) (k) + (((rest).tdiv (((g : Nat) : Int))) + 1))) (k) rfl (by omega) (by decide) d_MO_layLine_493 (fun H locs hP hD hS => ?_)
                obtain ⟨M_5, eM_5⟩ : ∃ q_, q_ = mset M_3 (23) (k) ((M_3 (23) (k) + (((rest).tdiv (((g : Nat) : Int))) + 1))) := ⟨_, rfl⟩
                have hP : va_P D vwCl (mo_w ad cs M_5) H := by rw [eM_5]; exact hP
                have hD : va_D A (mo_w ad cs M_5) := by rw [eM_5]; exact hD
                refine lv_iload hx hb d_MO_layLine_494 (lv_at hl 5 rfl) ?_
                refine lv_iload hx hb d_MO_layLine_496 (lv_at hl 1 rfl) ?_
                refine z_iadd hx hb d_MO_layLine_498 (v := (mv + (((rest).tdiv (((g : Nat) : Int))) + 1))) rfl ?_
                refine lv_istore (lv' := [(12, .int (iI ((mv + (((rest).tdiv (((g : Nat) : Int))) + 1))))), (13, .int (iI ((gp + 1)))), (17, .int (iI ((((rest).tdiv (((g : Nat) : Int))) + 1)))), (15, .int (iI ((bl - 1)))), (16, .int (iI (((k : Nat) : Int)))), (14, .int (iI (((g : Nat) : Int)))), (11, .int (iI (sp))), (10, .int (iI (((g : Nat) : Int)))), (9, .int (iI (((so : Nat) : Int)))), (7, .int (iI (rest))), (5, .int (iI (((nl : Nat) : Int)))), (0, .ref (ad (0))), (2, .int (iI (((a : Nat) : Int)))), (3, .int (iI (((b : Nat) : Int))))]) hx hb d_MO_layLine_499 hl (by decide) rfl (fun ls hl => ?_)
                refine z_iinc (v := ((k + 1 : Nat) : Int)) (lv' := [(16, .int (iI (((k + 1 : Nat) : Int)))), (12, .int (iI ((mv + (((rest).tdiv (((g : Nat) : Int))) + 1))))), (13, .int (iI ((gp + 1)))), (17, .int (iI ((((rest).tdiv (((g : Nat) : Int))) + 1)))), (15, .int (iI ((bl - 1)))), (14, .int (iI (((g : Nat) : Int)))), (11, .int (iI (sp))), (10, .int (iI (((g : Nat) : Int)))), (9, .int (iI (((so : Nat) : Int)))), (7, .int (iI (rest))), (5, .int (iI (((nl : Nat) : Int)))), (0, .ref (ad (0))), (2, .int (iI (((a : Nat) : Int)))), (3, .int (iI (((b : Nat) : Int))))]) hx hb d_MO_layLine_501 hl (k := 4) rfl (by omega) (by decide) rfl (fun ls hl => ?_)
                refine lv_goto (tgt := 371) hx hb d_MO_layLine_504 (by decide) ?_
                have hMM : M_5 = mset (mset (mset Mc 21 k ((nl : Nat) : Int)) 22 k (M 9 k + mv)) 23 k (M 10 k + (rest.tdiv ((g : Nat) : Int) + 1)) := by rw [eM_5, k23, hM3, mset_mset]
                have hF : r_l3 (M 6) (M 9) (M 10) so g sp rest ((nl : Nat) : Int) f (k + 1) (mv + (rest.tdiv ((g : Nat) : Int) + 1)) (gp + 1) (bl - 1) M_5 = MF := by rw [← he, hMM]; conv => rhs; unfold r_l3; rw [if_pos ⟨c_419, by rw [← k6]; exact c_430, by omega⟩, if_pos (by omega), if_pos (by omega)]
                exact ih (k + 1) (mv + (rest.tdiv ((g : Nat) : Int) + 1)) (gp + 1) (bl - 1) M_5 (by omega) (by omega) (by omega) (by omega) (by rw [eM_5]; exact eqb_set hs3 (by omega) (by omega)) hF H locs ls hP hD hS (lv_sub hl [0, 4, 5, 2, 1, 6, 7, 8, 9, 10, 11, 12, 13] rfl)
            · refine lv_goto (tgt := 501) hx hb d_MO_layLine_453 (by decide) ?_
              refine z_iinc (v := ((k + 1 : Nat) : Int)) (lv' := [(16, .int (iI (((k + 1 : Nat) : Int)))), (15, .int (iI ((bl - 1)))), (14, .int (iI (((g : Nat) : Int)))), (13, .int (iI (gp))), (12, .int (iI (mv))), (11, .int (iI (sp))), (10, .int (iI (((g : Nat) : Int)))), (9, .int (iI (((so : Nat) : Int)))), (7, .int (iI (rest))), (5, .int (iI (((nl : Nat) : Int)))), (0, .ref (ad (0))), (2, .int (iI (((a : Nat) : Int)))), (3, .int (iI (((b : Nat) : Int))))]) hx hb d_MO_layLine_501 hl (k := 1) rfl (by omega) (by decide) rfl (fun ls hl => ?_)
              refine lv_goto (tgt := 371) hx hb d_MO_layLine_504 (by decide) ?_
              have hF : r_l3 (M 6) (M 9) (M 10) so g sp rest ((nl : Nat) : Int) f (k + 1) mv gp ((bl - 1)) M_3 = MF := by rw [← he, hM3]; conv => rhs; unfold r_l3; rw [if_pos ⟨c_419, by rw [← k6]; exact c_430, by omega⟩, if_neg (by omega)]
              exact ih (k + 1) mv gp ((bl - 1)) M_3 (by omega) (by omega) (by omega) (by omega) hs3 hF H locs ls hP hD hS (lv_sub hl [0, 1, 2, 3, 4, 5, 6, 7, 8, 9, 10, 11, 12] rfl)
          · refine lv_goto (tgt := 501) hx hb d_MO_layLine_440 (by decide) ?_
            refine z_iinc (v := ((k + 1 : Nat) : Int)) (lv' := [(16, .int (iI (((k + 1 : Nat) : Int)))), (15, .int (iI (bl))), (14, .int (iI (((g : Nat) : Int)))), (13, .int (iI (gp))), (12, .int (iI (mv))), (11, .int (iI (sp))), (10, .int (iI (((g : Nat) : Int)))), (9, .int (iI (((so : Nat) : Int)))), (7, .int (iI (rest))), (5, .int (iI (((nl : Nat) : Int)))), (0, .ref (ad (0))), (2, .int (iI (((a : Nat) : Int)))), (3, .int (iI (((b : Nat) : Int))))]) hx hb d_MO_layLine_501 hl (k := 0) rfl (by omega) (by decide) rfl (fun ls hl => ?_)
            refine lv_goto (tgt := 371) hx hb d_MO_layLine_504 (by decide) ?_
            have hF : r_l3 (M 6) (M 9) (M 10) so g sp rest ((nl : Nat) : Int) f (k + 1) mv gp (bl) M_3 = MF := by rw [← he, hM3]; conv => rhs; unfold r_l3; rw [if_neg (fun h9 => by omega)]
            exact ih (k + 1) mv gp (bl) M_3 (by omega) (by omega) (by omega) (by omega) hs3 hF H locs ls hP hD hS (lv_sub hl [0, 1, 2, 3, 4, 5, 6, 7, 8, 9, 10, 11, 12] rfl)
