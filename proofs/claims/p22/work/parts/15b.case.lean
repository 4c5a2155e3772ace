def laS_feed (I : fmM → fmM → Prop) : Prop := ∀ (M M2 : fmM) (a0 a1 a2 a3 a4 : Int32), I M M2 → pvGood Tx 250 qX10_feed [.ref 0, .int a0, .int a1, .int a2, .int a3, .int a4] M (fun r M' => rkI false false r ∧ pvGood Tm 250 qX11_feed [.ref 0, .int a0, .int a1, .int a2, .int a3, .int a4] M2 (fun r2 M2' => tI r2 ∧ I M' M2'))
def laS_drawer (I : fmM → fmM → Prop) : Prop := ∀ (M M2 : fmM) (a0 : Int32), I M M2 → pvGood Tx 250 qX10_drawer [.ref 0, .int a0] M (fun r M' => rkI true false r ∧ pvGood Tm 250 qX11_drawer [.ref 0, .int a0] M2 (fun r2 M2' => tI r2 ∧ I M' M2'))
def laS_law (I : fmM → fmM → Prop) : Prop := ∀ (M M2 : fmM) (a0 : Int32), I M M2 → pvGood Tx 250 qX10_law [.ref 0, .int a0] M (fun r M' => rkI true false r ∧ pvGood Tm 250 qX11_law [.ref 0, .int a0] M2 (fun r2 M2' => tI r2 ∧ I M' M2'))
def laS_work (I : fmM → fmM → Prop) : Prop := ∀ (M M2 : fmM) (a0 : Int32), I M M2 → pvGood Tx 250 qX10_work [.ref 0, .int a0] M (fun r M' => rkI true false r ∧ pvGood Tm 250 qX11_work [.ref 0, .int a0] M2 (fun r2 M2' => tI r2 ∧ I M' M2'))
def laS_page (I : fmM → fmM → Prop) : Prop := ∀ (M M2 : fmM) (a0 : Int32), I M M2 → pvGood Tx 250 qX10_page [.ref 0, .int a0] M (fun r M' => rkI true false r ∧ pvGood Tm 250 qX11_page [.ref 0, .int a0] M2 (fun r2 M2' => tI r2 ∧ I M' M2'))
def laS_fault (I : fmM → fmM → Prop) : Prop := ∀ (M M2 : fmM), I M M2 → pvGood Tx 250 qX10_fault [.ref 0] M (fun r M' => rkI false false r ∧ pvGood Tm 250 qX11_fault [.ref 0] M2 (fun r2 M2' => tI r2 ∧ I M' M2'))
def laS_undo (I : fmM → fmM → Prop) : Prop := ∀ (M M2 : fmM), I M M2 → pvGood Tx 250 qX10_undo [.ref 0] M (fun r M' => rkI false false r ∧ pvGood Tm 250 qX11_undo [.ref 0] M2 (fun r2 M2' => tI r2 ∧ I M' M2'))
def laS_told (I : fmM → fmM → Prop) : Prop := ∀ (M M2 : fmM) (a0 : Int32), I M M2 → pvGood Tx 250 qX10_told [.ref 0, .int a0] M (fun r M' => rkI true false r ∧ pvGood Tm 250 qX11_told [.ref 0, .int a0] M2 (fun r2 M2' => tI r2 ∧ I M' M2'))
def laS_life (I : fmM → fmM → Prop) : Prop := ∀ (M M2 : fmM) (a0 a1 : Int32), I M M2 → pvGood Tx 250 qX10_life [.ref 0, .int a0, .int a1] M (fun r M' => rkI true true r ∧ pvGood Tm 250 qX11_life [.ref 0, .int a0, .int a1] M2 (fun r2 M2' => tI r2 ∧ I M' M2'))
def laS_facts (I : fmM → fmM → Prop) : Prop := ∀ (M M2 : fmM) (a0 : Int32), I M M2 → pvGood Tx 250 qX10_facts [.ref 0, .int a0] M (fun r M' => rkI false true r ∧ pvGood Tm 250 qX11_facts [.ref 0, .int a0] M2 (fun r2 M2' => tI r2 ∧ I M' M2'))
def laS_wrong (I : fmM → fmM → Prop) : Prop := ∀ (M M2 : fmM) (a0 : Int32), I M M2 → pvGood Tx 250 qX10_wrong [.ref 0, .int a0] M (fun r M' => rkI false true r ∧ pvGood Tm 250 qX11_wrong [.ref 0, .int a0] M2 (fun r2 M2' => tI r2 ∧ I M' M2'))
def laS_would (I : fmM → fmM → Prop) : Prop := ∀ (M M2 : fmM) (a0 a1 a2 a3 a4 : Int32), I M M2 → pvGood Tx 250 qX10_would [.ref 0, .int a0, .int a1, .int a2, .int a3, .int a4] M (fun r M' => rkI true false r ∧ pvGood Tm 250 qX11_would [.ref 0, .int a0, .int a1, .int a2, .int a3, .int a4] M2 (fun r2 M2' => tI r2 ∧ I M' M2'))
def laS_loss (I : fmM → fmM → Prop) : Prop := ∀ (M M2 : fmM) (a0 : Int32), I M M2 → pvGood Tx 250 qX10_loss [.ref 0, .int a0] M (fun r M' => rkJ true false r ∧ pvGood Tm 250 qX11_loss [.ref 0, .int a0] M2 (fun r2 M2' => tJ r2 ∧ I M' M2'))
def laS_cost (I : fmM → fmM → Prop) : Prop := ∀ (M M2 : fmM) (a0 a1 : Int32), I M M2 → pvGood Tx 250 qX10_cost [.ref 0, .int a0, .int a1] M (fun r M' => rkJ true true r ∧ pvGood Tm 250 qX11_cost [.ref 0, .int a0, .int a1] M2 (fun r2 M2' => tJ r2 ∧ I M' M2'))
def laS_risk (I : fmM → fmM → Prop) : Prop := ∀ (M M2 : fmM) (a0 : Int32), I M M2 → pvGood Tx 250 qX10_risk [.ref 0, .int a0] M (fun r M' => rkJ true false r ∧ pvGood Tm 250 qX11_risk [.ref 0, .int a0] M2 (fun r2 M2' => tJ r2 ∧ I M' M2'))
def laS_saves (I : fmM → fmM → Prop) : Prop := ∀ (M M2 : fmM) (a0 a1 : Int32), I M M2 → pvGood Tx 250 qX10_saves [.ref 0, .int a0, .int a1] M (fun r M' => rkJ true true r ∧ pvGood Tm 250 qX11_saves [.ref 0, .int a0, .int a1] M2 (fun r2 M2' => tJ r2 ∧ I M' M2'))
def laS_first (I : fmM → fmM → Prop) : Prop := ∀ (M M2 : fmM), I M M2 → pvGood Tx 250 qX10_first [.ref 0] M (fun r M' => rkI false false r ∧ pvGood Tm 250 qX11_first [.ref 0] M2 (fun r2 M2' => tI r2 ∧ I M' M2'))
def laS_lacking (I : fmM → fmM → Prop) : Prop := ∀ (M M2 : fmM), I M M2 → pvGood Tx 250 qX10_lacking [.ref 0] M (fun r M' => rkI false false r ∧ pvGood Tm 250 qX11_lacking [.ref 0] M2 (fun r2 M2' => tI r2 ∧ I M' M2'))
def laS_signed (I : fmM → fmM → Prop) : Prop := ∀ (M M2 : fmM), I M M2 → pvGood Tx 250 qX10_signed [.ref 0] M (fun r M' => rkI false false r ∧ pvGood Tm 250 qX11_signed [.ref 0] M2 (fun r2 M2' => tI r2 ∧ I M' M2'))
def laS_stale (I : fmM → fmM → Prop) : Prop := ∀ (M M2 : fmM) (a0 : Int32), I M M2 → pvGood Tx 250 qX10_stale [.ref 0, .int a0] M (fun r M' => rkI true false r ∧ pvGood Tm 250 qX11_stale [.ref 0, .int a0] M2 (fun r2 M2' => tI r2 ∧ I M' M2'))
def laS_best (I : fmM → fmM → Prop) : Prop := ∀ (M M2 : fmM) (a0 a1 : Int32), I M M2 → pvGood Tx 250 qX10_best [.ref 0, .int a0, .int a1] M (fun r M' => rkJ true false r ∧ pvGood Tm 250 qX11_best [.ref 0, .int a0, .int a1] M2 (fun r2 M2' => tJ r2 ∧ mtI 1 0 r r2 M2' ∧ I M' M2'))
def laS_bestIn (I : fmM → fmM → Prop) : Prop := ∀ (M M2 : fmM) (a0 a1 : Int32), I M M2 → pvGood Tx 250 qX10_bestIn [.ref 0, .int a0, .int a1] M (fun r M' => rkI true false r ∧ pvGood Tm 250 qX11_bestIn [.ref 0, .int a0, .int a1] M2 (fun r2 M2' => tI r2 ∧ I M' M2'))
def laS_often (I : fmM → fmM → Prop) : Prop := ∀ (M M2 : fmM) (a0 a1 : Int32), I M M2 → pvGood Tx 250 qX10_often [.ref 0, .int a0, .int a1] M (fun r M' => rkI true true r ∧ pvGood Tm 250 qX11_often [.ref 0, .int a0, .int a1] M2 (fun r2 M2' => tI r2 ∧ I M' M2'))
def laS_yearly (I : fmM → fmM → Prop) : Prop := ∀ (M M2 : fmM) (a0 a1 a2 a3 : Int32), I M M2 → pvGood Tx 250 qX10_yearly [.ref 0, .int a0, .int a1, .int a2, .int a3] M (fun r M' => rkJ true true r ∧ pvGood Tm 250 qX11_yearly [.ref 0, .int a0, .int a1, .int a2, .int a3] M2 (fun r2 M2' => tJ r2 ∧ I M' M2'))
def laS_brings (I : fmM → fmM → Prop) : Prop := ∀ (M M2 : fmM) (a0 a1 a2 a3 a4 a5 : Int32), I M M2 → pvGood Tx 250 qX10_brings [.ref 0, .int a0, .int a1, .int a2, .int a3, .int a4, .int a5] M (fun r M' => rkI true false r ∧ pvGood Tm 250 qX11_brings [.ref 0, .int a0, .int a1, .int a2, .int a3, .int a4, .int a5] M2 (fun r2 M2' => tI r2 ∧ I M' M2'))
def laS_says (I : fmM → fmM → Prop) : Prop := ∀ (M M2 : fmM) (a0 a1 a2 a3 a4 : Int32), I M M2 → pvGood Tx 250 qX10_says [.ref 0, .int a0, .int a1, .int a2, .int a3, .int a4] M (fun r M' => rkI true false r ∧ pvGood Tm 250 qX11_says [.ref 0, .int a0, .int a1, .int a2, .int a3, .int a4] M2 (fun r2 M2' => tI r2 ∧ I M' M2'))
def laS_line (I : fmM → fmM → Prop) : Prop := ∀ (M M2 : fmM) (a0 a1 a2 a3 : Int32), I M M2 → pvGood Tx 250 qX10_line [.ref 0, .int a0, .int a1, .int a2, .int a3] M (fun r M' => rkI true false r ∧ pvGood Tm 250 qX11_line [.ref 0, .int a0, .int a1, .int a2, .int a3] M2 (fun r2 M2' => tI r2 ∧ I M' M2'))
def laS_room (I : fmM → fmM → Prop) : Prop := ∀ (M M2 : fmM) (a0 a1 : Int32), I M M2 → pvGood Tx 250 qX10_room [.ref 0, .int a0, .int a1] M (fun r M' => rkI true false r ∧ pvGood Tm 250 qX11_room [.ref 0, .int a0, .int a1] M2 (fun r2 M2' => tI r2 ∧ I M' M2'))
def laS_lines (I : fmM → fmM → Prop) : Prop := ∀ (M M2 : fmM) (a0 a1 a2 : Int32), I M M2 → pvGood Tx 250 qX10_lines [.ref 0, .int a0, .int a1, .int a2] M (fun r M' => rkI true true r ∧ pvGood Tm 250 qX11_lines [.ref 0, .int a0, .int a1, .int a2] M2 (fun r2 M2' => tI r2 ∧ I M' M2'))
def laS_apart (I : fmM → fmM → Prop) : Prop := ∀ (M M2 : fmM) (a0 a1 : Int32), I M M2 → pvGood Tx 250 qX10_apart [.ref 0, .int a0, .int a1] M (fun r M' => rkI true false r ∧ pvGood Tm 250 qX11_apart [.ref 0, .int a0, .int a1] M2 (fun r2 M2' => tI r2 ∧ I M' M2'))
def laS_twins (I : fmM → fmM → Prop) : Prop := ∀ (M M2 : fmM), I M M2 → pvGood Tx 250 qX10_twins [.ref 0] M (fun r M' => rkI false false r ∧ pvGood Tm 250 qX11_twins [.ref 0] M2 (fun r2 M2' => tI r2 ∧ I M' M2'))
def laS_written (I : fmM → fmM → Prop) : Prop := ∀ (M M2 : fmM) (a0 : Int32), I M M2 → pvGood Tx 250 qX10_written [.ref 0, .int a0] M (fun r M' => rkJ false true r ∧ pvGood Tm 250 qX11_written [.ref 0, .int a0] M2 (fun r2 M2' => tJ r2 ∧ I M' M2'))
def laS_whose (I : fmM → fmM → Prop) : Prop := ∀ (M M2 : fmM), I M M2 → pvGood Tx 250 qX10_whose [.ref 0] M (fun r M' => rkI false false r ∧ pvGood Tm 250 qX11_whose [.ref 0] M2 (fun r2 M2' => tI r2 ∧ I M' M2'))
def laS_ahead (I : fmM → fmM → Prop) : Prop := ∀ (M M2 : fmM) (a0 a1 : Int32), I M M2 → pvGood Tx 250 qX10_ahead [.ref 0, .int a0, .int a1] M (fun r M' => rkJ true false r ∧ pvGood Tm 250 qX11_ahead [.ref 0, .int a0, .int a1] M2 (fun r2 M2' => tJ r2 ∧ I M' M2'))
def laS_lives (I : fmM → fmM → Prop) : Prop := ∀ (M M2 : fmM) (a0 a1 a2 : Int32), I M M2 → pvGood Tx 250 qX10_lives [.ref 0, .int a0, .int a1, .int a2] M (fun r M' => rkJ true true r ∧ pvGood Tm 250 qX11_lives [.ref 0, .int a0, .int a1, .int a2] M2 (fun r2 M2' => tJ r2 ∧ I M' M2'))
def laS_oldest (I : fmM → fmM → Prop) : Prop := ∀ (M M2 : fmM), I M M2 → pvGood Tx 250 qX10_oldest [.ref 0] M (fun r M' => rkI false false r ∧ pvGood Tm 250 qX11_oldest [.ref 0] M2 (fun r2 M2' => tI r2 ∧ I M' M2'))
def laS_chain (I : fmM → fmM → Prop) : Prop := ∀ (M M2 : fmM) (a0 a1 : Int32), I M M2 → pvGood Tx 250 qX10_chain [.ref 0, .int a0, .int a1] M (fun r M' => rkI true true r ∧ pvGood Tm 250 qX11_chain [.ref 0, .int a0, .int a1] M2 (fun r2 M2' => tI r2 ∧ I M' M2'))
def laS_due (I : fmM → fmM → Prop) : Prop := ∀ (M M2 : fmM) (a0 a1 : Int32), I M M2 → pvGood Tx 250 qX10_due [.ref 0, .int a0, .int a1] M (fun r M' => rkI true true r ∧ pvGood Tm 250 qX11_due [.ref 0, .int a0, .int a1] M2 (fun r2 M2' => tI r2 ∧ I M' M2'))
def laS_news (I : fmM → fmM → Prop) : Prop := ∀ (M M2 : fmM) (a0 : Int32), I M M2 → pvGood Tx 250 qX10_news [.ref 0, .int a0] M (fun r M' => rkI false true r ∧ pvGood Tm 250 qX11_news [.ref 0, .int a0] M2 (fun r2 M2' => tI r2 ∧ I M' M2'))
def laS_expects (I : fmM → fmM → Prop) : Prop := ∀ (M M2 : fmM) (a0 a1 a2 : Int32), I M M2 → pvGood Tx 250 qX10_expects [.ref 0, .int a0, .int a1, .int a2] M (fun r M' => rkJ true true r ∧ pvGood Tm 250 qX11_expects [.ref 0, .int a0, .int a1, .int a2] M2 (fun r2 M2' => tJ r2 ∧ I M' M2'))
def laS_worst (I : fmM → fmM → Prop) : Prop := ∀ (M M2 : fmM), I M M2 → pvGood Tx 250 qX10_worst [.ref 0] M (fun r M' => rkI false false r ∧ pvGood Tm 250 qX11_worst [.ref 0] M2 (fun r2 M2' => tI r2 ∧ I M' M2'))
def laS_years (I : fmM → fmM → Prop) : Prop := ∀ (M M2 : fmM) (a0 a1 a2 : Int32), I M M2 → pvGood Tx 250 qX10_years [.ref 0, .int a0, .int a1, .int a2] M (fun r M' => rkI true false r ∧ pvGood Tm 250 qX11_years [.ref 0, .int a0, .int a1, .int a2] M2 (fun r2 M2' => tI r2 ∧ I M' M2'))
def laS_span (I : fmM → fmM → Prop) : Prop := ∀ (M M2 : fmM) (a0 a1 a2 a3 a4 : Int32), I M M2 → pvGood Tx 250 qX10_span [.ref 0, .int a0, .int a1, .int a2, .int a3, .int a4] M (fun r M' => rkI true false r ∧ pvGood Tm 250 qX11_span [.ref 0, .int a0, .int a1, .int a2, .int a3, .int a4] M2 (fun r2 M2' => tI r2 ∧ I M' M2'))
def laS_image (I : fmM → fmM → Prop) : Prop := ∀ (M M2 : fmM), I M M2 → pvGood Tx 250 qX10_image [.ref 0] M (fun r M' => rkI false false r ∧ pvGood Tm 250 qX11_image [.ref 0] M2 (fun r2 M2' => tI r2 ∧ I M' M2'))
def laS_restore (I : fmM → fmM → Prop) : Prop := ∀ (M M2 : fmM), I M M2 → pvGood Tx 250 qX10_restore [.ref 0] M (fun r M' => rkI false false r ∧ pvGood Tm 250 qX11_restore [.ref 0] M2 (fun r2 M2' => tI r2 ∧ I M' M2'))
def laS_status (I : fmM → fmM → Prop) : Prop := ∀ (M M2 : fmM) (a0 : Int32), I M M2 → pvGood Tx 250 qX10_status [.ref 0, .int a0] M (fun r M' => rkI false false r ∧ pvGood Tm 250 qX11_status [.ref 0, .int a0] M2 (fun r2 M2' => tI r2 ∧ I M' M2'))
def laS_count (I : fmM → fmM → Prop) : Prop := ∀ (M M2 : fmM) (a0 : Int32), I M M2 → pvGood Tx 250 qX10_count [.ref 0, .int a0] M (fun r M' => rkI false false r ∧ pvGood Tm 250 qX11_count [.ref 0, .int a0] M2 (fun r2 M2' => tI r2 ∧ I M' M2'))
theorem z_pop {p : Program} {l : Launch} {e : Env} {R : Room} {s : State} {m : MethodId} {args : Array Value} {below : List Frame} {meth : Method} {c : Code} {own : String} {cc : ByteArray} {nL : Nat} {G : fmG} {A : Nat → Prop} {Z : State → Prop} {pc : Nat} {L : List (Option Value)} {st : List Value} {ws : va_W} {cu su : Nat} (hF : zFix p s m args c own cc nL G A) {v : Value} (hc : v.category = 1) (hdg : decode cc pc = .ok (.pop, 1)) (k : zEv p l e R s m args below meth c G A nL Z (pc + 1) L st ws cu su) : zEv p l e R s m args below meth c G A nL Z pc L (v :: st) ws cu su := z_row hF (fun _ _ _ _ _ _ _ _ _ _ _ _ _ _ _ hx hb hL kk => lv_pop hx hb hdg hc kk) k
set_option maxRecDepth 20000 in
theorem la_c0 {p : Program} {l : Launch} {e : Env} {s : State} {m : MethodId} {below : List Frame} {meth : Method} {c : Code} {G : fmG} {b n : Nat} {xs : Nat → Int32} {I : fmM → fmM → Prop} (hS : laS_feed I) (C : laC p l s m meth c G b n xs) {g g2 : Nat → Nat} {M M2 : fmM} {f : Nat → Int64} {o t : Nat} {i : Int32} {cu su : Nat} (hi : laI n i t) (hcu : cu + 1 ≤ 601024) (hsu : su + 6 ≤ 7293034) (hcu1 : cu + 1 + 1 ≤ 601024) (hsu1 : su + 6 + 6 ≤ 7293034) (hI : I M M2) (kk : ∀ (M' : fmM) (f' : Nat → Int64) (M2' : fmM), I M' M2' → zEv p l e room_1 s m #[.ref b] below meth c G (fun q => s.heap.size ≤ q) 8 (lw_Z below #[.ref b] s) 1967 [some (.ref b), some (.ref (g 0)), some (.ref (g2 0)), some (.ref o), some (.int i), none, none, none] [] (fmL Tx (g, G.2) M' ++ ((o, .inl (G.2.2.1 1, 1, .inr (.inl f'))) :: fmL Tm (g2, G.2) M2')) (cu + 1) (su + 6)) : zEv p l e room_1 s m #[.ref b] below meth c G (fun q => s.heap.size ≤ q) 8 (lw_Z below #[.ref b] s) 244 [some (.ref b), some (.ref (g 0)), some (.ref (g2 0)), some (.ref o), some (.int i), none, none, none] [] (fmL Tx (g, G.2) M ++ ((o, .inl (G.2.2.1 1, 1, .inr (.inl f))) :: fmL Tm (g2, G.2) M2)) cu su := by
  have h0 := hS M M2 (xs (t + 1)) (xs (t + 2)) (xs (t + 3)) (xs (t + 4)) (xs (t + 5)) hI
  refine z_aloadn C.1 (pc := 244) (n := 1) 1 rfl rfl (fm_dec dtLa_0 25 rfl) ?_
  refine la_arg C (pc := 245) (v := 1) (t + 1) rfl rfl (hi 1 (by decide)) (by decide) (fm_dec dtLa_0 26 rfl) (fm_dec dtLa_0 27 rfl) (fm_dec dtLa_0 28 rfl) (fm_dec dtLa_0 29 rfl) (fm_dec dtLa_1 0 rfl) ?_
  refine la_arg C (pc := 251) (v := 2) (t + 2) rfl rfl (hi 2 (by decide)) (by decide) (fm_dec dtLa_1 1 rfl) (fm_dec dtLa_1 2 rfl) (fm_dec dtLa_1 3 rfl) (fm_dec dtLa_1 4 rfl) (fm_dec dtLa_1 5 rfl) ?_
  refine la_arg C (pc := 257) (v := 3) (t + 3) rfl rfl (hi 3 (by decide)) (by decide) (fm_dec dtLa_1 6 rfl) (fm_dec dtLa_1 7 rfl) (fm_dec dtLa_1 8 rfl) (fm_dec dtLa_1 9 rfl) (fm_dec dtLa_1 10 rfl) ?_
  refine la_arg C (pc := 263) (v := 4) (t + 4) rfl rfl (hi 4 (by decide)) (by decide) (fm_dec dtLa_1 11 rfl) (fm_dec dtLa_1 12 rfl) (fm_dec dtLa_1 13 rfl) (fm_dec dtLa_1 14 rfl) (fm_dec dtLa_1 15 rfl) ?_
  refine la_arg C (pc := 269) (v := 5) (t + 5) rfl rfl (hi 5 (by decide)) (by decide) (fm_dec dtLa_1 16 rfl) (fm_dec dtLa_1 17 rfl) (fm_dec dtLa_1 18 rfl) (fm_dec dtLa_1 19 rfl) (fm_dec dtLa_1 20 rfl) ?_
  refine z_callX C.1 (T := Tx) (g := g) (M := M) (rest := (o, .inl (G.2.2.1 1, 1, .inr (.inl f))) :: fmL Tm (g2, G.2) M2) (k := 0) (ci := 10) (d' := 250) (pc := 275) (As := [.int (xs (t + 1)), .int (xs (t + 2)), .int (xs (t + 3)), .int (xs (t + 4)), .int (xs (t + 5))]) (st := []) cvL_126 (by decide) rfl rfl rfl (by decide) (rm_fr (by decide)) (rm_lo (by decide) (by decide)) (rm_c hcu) (rm_s hsu) (fm_dec dtLa_1 21 rfl) ?_
  refine fmGood.imp (pvGood.fm C.2.2.2.2.2 (by decide) (by decide +kernel) h0) (fun o9 M1 h9 => ?_)
  obtain ⟨o', rfl, h8, h2⟩ := h9
  rcases h8 with ⟨v, rfl⟩ | ⟨h8, -⟩ | ⟨h8, -⟩
  · refine z_then1 ?_
    refine z_pop C.1 (pc := 278) rfl (fm_dec dtLa_1 22 rfl) ?_
    refine z_aloadn C.1 (pc := 279) (n := 2) 2 rfl rfl (fm_dec dtLa_1 23 rfl) ?_
    refine la_arg C (pc := 280) (v := 1) (t + 1) rfl rfl (hi 1 (by decide)) (by decide) (fm_dec dtLa_1 24 rfl) (fm_dec dtLa_1 25 rfl) (fm_dec dtLa_1 26 rfl) (fm_dec dtLa_1 27 rfl) (fm_dec dtLa_1 28 rfl) ?_
    refine la_arg C (pc := 286) (v := 2) (t + 2) rfl rfl (hi 2 (by decide)) (by decide) (fm_dec dtLa_1 29 rfl) (fm_dec dtLa_2 0 rfl) (fm_dec dtLa_2 1 rfl) (fm_dec dtLa_2 2 rfl) (fm_dec dtLa_2 3 rfl) ?_
    refine la_arg C (pc := 292) (v := 3) (t + 3) rfl rfl (hi 3 (by decide)) (by decide) (fm_dec dtLa_2 4 rfl) (fm_dec dtLa_2 5 rfl) (fm_dec dtLa_2 6 rfl) (fm_dec dtLa_2 7 rfl) (fm_dec dtLa_2 8 rfl) ?_
    refine la_arg C (pc := 298) (v := 4) (t + 4) rfl rfl (hi 4 (by decide)) (by decide) (fm_dec dtLa_2 9 rfl) (fm_dec dtLa_2 10 rfl) (fm_dec dtLa_2 11 rfl) (fm_dec dtLa_2 12 rfl) (fm_dec dtLa_2 13 rfl) ?_
    refine la_arg C (pc := 304) (v := 5) (t + 5) rfl rfl (hi 5 (by decide)) (by decide) (fm_dec dtLa_2 14 rfl) (fm_dec dtLa_2 15 rfl) (fm_dec dtLa_2 16 rfl) (fm_dec dtLa_2 17 rfl) (fm_dec dtLa_2 18 rfl) ?_
    have hcw := hcu
    have hsw := hsu
    refine z_perm (ws := (fmL Tx (g, G.2) M1 ++ ((o, .inl (G.2.2.1 1, 1, .inr (.inl f))) :: fmL Tm (g2, G.2) M2))) (wpermW _ _ _) ?_
    refine la_ref C (pc := 310) (As := [.int (xs (t + 1)), .int (xs (t + 2)), .int (xs (t + 3)), .int (xs (t + 4)), .int (xs (t + 5))]) (st := []) cvL_129 (by decide +kernel) rfl rfl (Nat.le_of_ble_eq_true rfl) (by decide) hcw hsw (fm_dec dtLa_2 19 rfl) rfl h2 (fun r2 M3 h3 => ?_)
    obtain ⟨⟨v2, rfl⟩, hI3⟩ := h3
    refine z_then1 ?_
    refine z_pop C.1 (pc := 313) rfl (fm_dec dtLa_2 20 rfl) ?_
    refine z_goto C.1 (pc := 314) 1967 (by decide) (fm_dec dtLa_2 21 rfl) ?_
    refine z_more (Nat.le_succ _) (Nat.le_add_right _ 6) ?_
    exact z_perm (wpermB _ _ _) (la_fgt (kk M1 f M3 hI3))
  · cases h8
  · cases h8
set_option maxRecDepth 20000 in
theorem la_c1 {p : Program} {l : Launch} {e : Env} {s : State} {m : MethodId} {below : List Frame} {meth : Method} {c : Code} {G : fmG} {b n : Nat} {xs : Nat → Int32} {I : fmM → fmM → Prop} (hS : laS_drawer I) (C : laC p l s m meth c G b n xs) {g g2 : Nat → Nat} {M M2 : fmM} {f : Nat → Int64} {o t : Nat} {i : Int32} {cu su : Nat} (hi : laI n i t) (hcu : cu + 1 ≤ 601024) (hsu : su + 6 ≤ 7293034) (hcu1 : cu + 1 + 1 ≤ 601024) (hsu1 : su + 6 + 6 ≤ 7293034) (hI : I M M2) (kk : ∀ (M' : fmM) (f' : Nat → Int64) (M2' : fmM), I M' M2' → zEv p l e room_1 s m #[.ref b] below meth c G (fun q => s.heap.size ≤ q) 8 (lw_Z below #[.ref b] s) 1967 [some (.ref b), some (.ref (g 0)), some (.ref (g2 0)), some (.ref o), some (.int i), none, none, none] [] (fmL Tx (g, G.2) M' ++ ((o, .inl (G.2.2.1 1, 1, .inr (.inl f'))) :: fmL Tm (g2, G.2) M2')) (cu + 1) (su + 6)) : zEv p l e room_1 s m #[.ref b] below meth c G (fun q => s.heap.size ≤ q) 8 (lw_Z below #[.ref b] s) 317 [some (.ref b), some (.ref (g 0)), some (.ref (g2 0)), some (.ref o), some (.int i), none, none, none] [] (fmL Tx (g, G.2) M ++ ((o, .inl (G.2.2.1 1, 1, .inr (.inl f))) :: fmL Tm (g2, G.2) M2)) cu su := by
  have h0 := hS M M2 (xs (t + 1)) hI
  refine z_aloadn C.1 (pc := 317) (n := 1) 1 rfl rfl (fm_dec dtLa_2 22 rfl) ?_
  refine la_arg C (pc := 318) (v := 1) (t + 1) rfl rfl (hi 1 (by decide)) (by decide) (fm_dec dtLa_2 23 rfl) (fm_dec dtLa_2 24 rfl) (fm_dec dtLa_2 25 rfl) (fm_dec dtLa_2 26 rfl) (fm_dec dtLa_2 27 rfl) ?_
  refine z_aloadn C.1 (pc := 324) (n := 3) 3 rfl rfl (fm_dec dtLa_2 28 rfl) ?_
  have hw : pvGood Tx 250 qX10_drawer [.ref 0, .int (xs (t + 1))] M (wI f (fun (r : Int32) (u : fmM × (Nat → Int64)) => pvGood Tm 250 qX11_drawer [.ref 0, .int (xs (t + 1))] M2 (fun r2 M2' => tI r2 ∧ I u.1 M2')) (fun E M' => (E = fmIAE ∧ (fun (r : Int32) (u : fmM × (Nat → Int64)) => pvGood Tm 250 qX11_drawer [.ref 0, .int (xs (t + 1))] M2 (fun r2 M2' => tI r2 ∧ I u.1 M2')) 1 (M', f)))) := h0.imp (fun r9 M9 h9 => by
    obtain ⟨h8, h2⟩ := h9
    rcases h8 with ⟨v, rfl⟩ | ⟨h6, rfl⟩ | ⟨h6, rfl⟩
    · exact h2
    · exact ⟨rfl, h2⟩
    · exact absurd h6 (by decide))
  refine z_callW C.1 (y' := qL_drawer) (hh := [(0, 9, 12, 13)]) (W0 := WX G g o (fmL Tm (g2, G.2) M2) (M, f)) (WW := WX G g o (fmL Tm (g2, G.2) M2)) (Q := fun (r : Int32) (u : fmM × (Nat → Int64)) => pvGood Tm 250 qX11_drawer [.ref 0, .int (xs (t + 1))] M2 (fun r2 M2' => tI r2 ∧ I u.1 M2')) (As := [.ref (g 0), .int (xs (t + 1)), .ref o]) (st := []) (pc := 325) (fm_in 589 (by decide +kernel) rfl) nst_L_drawer niL nw_L_drawer nd_L_drawer rfl rfl (by decide) (show 311 ≤ room_1.frames by decide) (show 8 + (4 + 11) + 18200 ≤ room_1.locals by decide) (rm_c hcu) (rm_s hsu) (fm_dec dtLa_2 29 rfl) (w_drawer C.2.2.2.2.2 hw) (fun r u hQ => ?_)
  obtain ⟨M1, f1⟩ := u
  refine z_istore C.1 (pc := 328) (i := 5) (by decide) rfl (fm_dec dtLa_3 0 rfl) ?_
  dsimp only [List.set_cons_zero, List.set_cons_succ]
  refine z_aloadn C.1 (pc := 330) (n := 2) 2 rfl rfl (fm_dec dtLa_3 1 rfl) ?_
  refine la_arg C (pc := 331) (v := 1) (t + 1) rfl rfl (hi 1 (by decide)) (by decide) (fm_dec dtLa_3 2 rfl) (fm_dec dtLa_3 3 rfl) (fm_dec dtLa_3 4 rfl) (fm_dec dtLa_3 5 rfl) (fm_dec dtLa_3 6 rfl) ?_
  have hcw := hcu1
  have hsw := hsu1
  refine z_perm (ws := (fmL Tx (g, G.2) M1 ++ ((o, .inl (G.2.2.1 1, 1, .inr (.inl f1))) :: fmL Tm (g2, G.2) M2))) (wpermW _ _ _) ?_
  refine la_ref C (pc := 337) (As := [.int (xs (t + 1))]) (st := []) cvL_135 (by decide +kernel) rfl rfl (Nat.le_of_ble_eq_true rfl) (by decide) hcw hsw (fm_dec dtLa_3 7 rfl) rfl hQ (fun r2 M3 h3 => ?_)
  obtain ⟨⟨v2, rfl⟩, hI3⟩ := h3
  refine z_then1 ?_
  refine z_istore C.1 (pc := 340) (i := 6) (by decide) rfl (fm_dec dtLa_3 8 rfl) ?_
  dsimp only [List.set_cons_zero, List.set_cons_succ]
  refine z_goto C.1 (pc := 342) 1967 (by decide) (fm_dec dtLa_3 9 rfl) ?_
  exact z_perm (wpermB _ _ _) (la_fgt (kk M1 f1 M3 hI3))
set_option maxRecDepth 20000 in
theorem la_c2 {p : Program} {l : Launch} {e : Env} {s : State} {m : MethodId} {below : List Frame} {meth : Method} {c : Code} {G : fmG} {b n : Nat} {xs : Nat → Int32} {I : fmM → fmM → Prop} (hS : laS_law I) (C : laC p l s m meth c G b n xs) {g g2 : Nat → Nat} {M M2 : fmM} {f : Nat → Int64} {o t : Nat} {i : Int32} {cu su : Nat} (hi : laI n i t) (hcu : cu + 1 ≤ 601024) (hsu : su + 6 ≤ 7293034) (hcu1 : cu + 1 + 1 ≤ 601024) (hsu1 : su + 6 + 6 ≤ 7293034) (hI : I M M2) (kk : ∀ (M' : fmM) (f' : Nat → Int64) (M2' : fmM), I M' M2' → zEv p l e room_1 s m #[.ref b] below meth c G (fun q => s.heap.size ≤ q) 8 (lw_Z below #[.ref b] s) 1967 [some (.ref b), some (.ref (g 0)), some (.ref (g2 0)), some (.ref o), some (.int i), none, none, none] [] (fmL Tx (g, G.2) M' ++ ((o, .inl (G.2.2.1 1, 1, .inr (.inl f'))) :: fmL Tm (g2, G.2) M2')) (cu + 1) (su + 6)) : zEv p l e room_1 s m #[.ref b] below meth c G (fun q => s.heap.size ≤ q) 8 (lw_Z below #[.ref b] s) 345 [some (.ref b), some (.ref (g 0)), some (.ref (g2 0)), some (.ref o), some (.int i), none, none, none] [] (fmL Tx (g, G.2) M ++ ((o, .inl (G.2.2.1 1, 1, .inr (.inl f))) :: fmL Tm (g2, G.2) M2)) cu su := by
  have h0 := hS M M2 (xs (t + 1)) hI
  refine z_aloadn C.1 (pc := 345) (n := 1) 1 rfl rfl (fm_dec dtLa_3 10 rfl) ?_
  refine la_arg C (pc := 346) (v := 1) (t + 1) rfl rfl (hi 1 (by decide)) (by decide) (fm_dec dtLa_3 11 rfl) (fm_dec dtLa_3 12 rfl) (fm_dec dtLa_3 13 rfl) (fm_dec dtLa_3 14 rfl) (fm_dec dtLa_3 15 rfl) ?_
  refine z_aloadn C.1 (pc := 352) (n := 3) 3 rfl rfl (fm_dec dtLa_3 16 rfl) ?_
  have hw : pvGood Tx 250 qX10_law [.ref 0, .int (xs (t + 1))] M (wI f (fun (r : Int32) (u : fmM × (Nat → Int64)) => pvGood Tm 250 qX11_law [.ref 0, .int (xs (t + 1))] M2 (fun r2 M2' => tI r2 ∧ I u.1 M2')) (fun E M' => (E = fmIAE ∧ (fun (r : Int32) (u : fmM × (Nat → Int64)) => pvGood Tm 250 qX11_law [.ref 0, .int (xs (t + 1))] M2 (fun r2 M2' => tI r2 ∧ I u.1 M2')) 1 (M', f)))) := h0.imp (fun r9 M9 h9 => by
    obtain ⟨h8, h2⟩ := h9
    rcases h8 with ⟨v, rfl⟩ | ⟨h6, rfl⟩ | ⟨h6, rfl⟩
    · exact h2
    · exact ⟨rfl, h2⟩
    · exact absurd h6 (by decide))
  refine z_callW C.1 (y' := qL_law) (hh := [(0, 9, 12, 13)]) (W0 := WX G g o (fmL Tm (g2, G.2) M2) (M, f)) (WW := WX G g o (fmL Tm (g2, G.2) M2)) (Q := fun (r : Int32) (u : fmM × (Nat → Int64)) => pvGood Tm 250 qX11_law [.ref 0, .int (xs (t + 1))] M2 (fun r2 M2' => tI r2 ∧ I u.1 M2')) (As := [.ref (g 0), .int (xs (t + 1)), .ref o]) (st := []) (pc := 353) (fm_in 799 (by decide +kernel) rfl) nst_L_law niL nw_L_law nd_L_law rfl rfl (by decide) (show 311 ≤ room_1.frames by decide) (show 8 + (4 + 11) + 18200 ≤ room_1.locals by decide) (rm_c hcu) (rm_s hsu) (fm_dec dtLa_3 17 rfl) (w_law C.2.2.2.2.2 hw) (fun r u hQ => ?_)
  obtain ⟨M1, f1⟩ := u
  refine z_istore C.1 (pc := 356) (i := 5) (by decide) rfl (fm_dec dtLa_3 18 rfl) ?_
  dsimp only [List.set_cons_zero, List.set_cons_succ]
  refine z_aloadn C.1 (pc := 358) (n := 2) 2 rfl rfl (fm_dec dtLa_3 19 rfl) ?_
  refine la_arg C (pc := 359) (v := 1) (t + 1) rfl rfl (hi 1 (by decide)) (by decide) (fm_dec dtLa_3 20 rfl) (fm_dec dtLa_3 21 rfl) (fm_dec dtLa_3 22 rfl) (fm_dec dtLa_3 23 rfl) (fm_dec dtLa_3 24 rfl) ?_
  have hcw := hcu1
  have hsw := hsu1
  refine z_perm (ws := (fmL Tx (g, G.2) M1 ++ ((o, .inl (G.2.2.1 1, 1, .inr (.inl f1))) :: fmL Tm (g2, G.2) M2))) (wpermW _ _ _) ?_
  refine la_ref C (pc := 365) (As := [.int (xs (t + 1))]) (st := []) cvL_138 (by decide +kernel) rfl rfl (Nat.le_of_ble_eq_true rfl) (by decide) hcw hsw (fm_dec dtLa_3 25 rfl) rfl hQ (fun r2 M3 h3 => ?_)
  obtain ⟨⟨v2, rfl⟩, hI3⟩ := h3
  refine z_then1 ?_
  refine z_istore C.1 (pc := 368) (i := 6) (by decide) rfl (fm_dec dtLa_3 26 rfl) ?_
  dsimp only [List.set_cons_zero, List.set_cons_succ]
  refine z_goto C.1 (pc := 370) 1967 (by decide) (fm_dec dtLa_3 27 rfl) ?_
  exact z_perm (wpermB _ _ _) (la_fgt (kk M1 f1 M3 hI3))
set_option maxRecDepth 20000 in
theorem la_c3 {p : Program} {l : Launch} {e : Env} {s : State} {m : MethodId} {below : List Frame} {meth : Method} {c : Code} {G : fmG} {b n : Nat} {xs : Nat → Int32} {I : fmM → fmM → Prop} (hS : laS_work I) (C : laC p l s m meth c G b n xs) {g g2 : Nat → Nat} {M M2 : fmM} {f : Nat → Int64} {o t : Nat} {i : Int32} {cu su : Nat} (hi : laI n i t) (hcu : cu + 1 ≤ 601024) (hsu : su + 6 ≤ 7293034) (hcu1 : cu + 1 + 1 ≤ 601024) (hsu1 : su + 6 + 6 ≤ 7293034) (hI : I M M2) (kk : ∀ (M' : fmM) (f' : Nat → Int64) (M2' : fmM), I M' M2' → zEv p l e room_1 s m #[.ref b] below meth c G (fun q => s.heap.size ≤ q) 8 (lw_Z below #[.ref b] s) 1967 [some (.ref b), some (.ref (g 0)), some (.ref (g2 0)), some (.ref o), some (.int i), none, none, none] [] (fmL Tx (g, G.2) M' ++ ((o, .inl (G.2.2.1 1, 1, .inr (.inl f'))) :: fmL Tm (g2, G.2) M2')) (cu + 1) (su + 6)) : zEv p l e room_1 s m #[.ref b] below meth c G (fun q => s.heap.size ≤ q) 8 (lw_Z below #[.ref b] s) 373 [some (.ref b), some (.ref (g 0)), some (.ref (g2 0)), some (.ref o), some (.int i), none, none, none] [] (fmL Tx (g, G.2) M ++ ((o, .inl (G.2.2.1 1, 1, .inr (.inl f))) :: fmL Tm (g2, G.2) M2)) cu su := by
  have h0 := hS M M2 (xs (t + 1)) hI
  refine z_aloadn C.1 (pc := 373) (n := 1) 1 rfl rfl (fm_dec dtLa_3 28 rfl) ?_
  refine la_arg C (pc := 374) (v := 1) (t + 1) rfl rfl (hi 1 (by decide)) (by decide) (fm_dec dtLa_3 29 rfl) (fm_dec dtLa_4 0 rfl) (fm_dec dtLa_4 1 rfl) (fm_dec dtLa_4 2 rfl) (fm_dec dtLa_4 3 rfl) ?_
  refine z_aloadn C.1 (pc := 380) (n := 3) 3 rfl rfl (fm_dec dtLa_4 4 rfl) ?_
  have hw : pvGood Tx 250 qX10_work [.ref 0, .int (xs (t + 1))] M (wI f (fun (r : Int32) (u : fmM × (Nat → Int64)) => pvGood Tm 250 qX11_work [.ref 0, .int (xs (t + 1))] M2 (fun r2 M2' => tI r2 ∧ I u.1 M2')) (fun E M' => (E = fmIAE ∧ (fun (r : Int32) (u : fmM × (Nat → Int64)) => pvGood Tm 250 qX11_work [.ref 0, .int (xs (t + 1))] M2 (fun r2 M2' => tI r2 ∧ I u.1 M2')) 1 (M', f)))) := h0.imp (fun r9 M9 h9 => by
    obtain ⟨h8, h2⟩ := h9
    rcases h8 with ⟨v, rfl⟩ | ⟨h6, rfl⟩ | ⟨h6, rfl⟩
    · exact h2
    · exact ⟨rfl, h2⟩
    · exact absurd h6 (by decide))
  refine z_callW C.1 (y' := qL_work) (hh := [(0, 9, 12, 13)]) (W0 := WX G g o (fmL Tm (g2, G.2) M2) (M, f)) (WW := WX G g o (fmL Tm (g2, G.2) M2)) (Q := fun (r : Int32) (u : fmM × (Nat → Int64)) => pvGood Tm 250 qX11_work [.ref 0, .int (xs (t + 1))] M2 (fun r2 M2' => tI r2 ∧ I u.1 M2')) (As := [.ref (g 0), .int (xs (t + 1)), .ref o]) (st := []) (pc := 381) (fm_in 838 (by decide +kernel) rfl) nst_L_work niL nw_L_work nd_L_work rfl rfl (by decide) (show 311 ≤ room_1.frames by decide) (show 8 + (4 + 11) + 18200 ≤ room_1.locals by decide) (rm_c hcu) (rm_s hsu) (fm_dec dtLa_4 5 rfl) (w_work C.2.2.2.2.2 hw) (fun r u hQ => ?_)
  obtain ⟨M1, f1⟩ := u
  refine z_istore C.1 (pc := 384) (i := 5) (by decide) rfl (fm_dec dtLa_4 6 rfl) ?_
  dsimp only [List.set_cons_zero, List.set_cons_succ]
  refine z_aloadn C.1 (pc := 386) (n := 2) 2 rfl rfl (fm_dec dtLa_4 7 rfl) ?_
  refine la_arg C (pc := 387) (v := 1) (t + 1) rfl rfl (hi 1 (by decide)) (by decide) (fm_dec dtLa_4 8 rfl) (fm_dec dtLa_4 9 rfl) (fm_dec dtLa_4 10 rfl) (fm_dec dtLa_4 11 rfl) (fm_dec dtLa_4 12 rfl) ?_
  have hcw := hcu1
  have hsw := hsu1
  refine z_perm (ws := (fmL Tx (g, G.2) M1 ++ ((o, .inl (G.2.2.1 1, 1, .inr (.inl f1))) :: fmL Tm (g2, G.2) M2))) (wpermW _ _ _) ?_
  refine la_ref C (pc := 393) (As := [.int (xs (t + 1))]) (st := []) cvL_141 (by decide +kernel) rfl rfl (Nat.le_of_ble_eq_true rfl) (by decide) hcw hsw (fm_dec dtLa_4 13 rfl) rfl hQ (fun r2 M3 h3 => ?_)
  obtain ⟨⟨v2, rfl⟩, hI3⟩ := h3
  refine z_then1 ?_
  refine z_istore C.1 (pc := 396) (i := 6) (by decide) rfl (fm_dec dtLa_4 14 rfl) ?_
  dsimp only [List.set_cons_zero, List.set_cons_succ]
  refine z_goto C.1 (pc := 398) 1967 (by decide) (fm_dec dtLa_4 15 rfl) ?_
  exact z_perm (wpermB _ _ _) (la_fgt (kk M1 f1 M3 hI3))
set_option maxRecDepth 20000 in
theorem la_c4 {p : Program} {l : Launch} {e : Env} {s : State} {m : MethodId} {below : List Frame} {meth : Method} {c : Code} {G : fmG} {b n : Nat} {xs : Nat → Int32} {I : fmM → fmM → Prop} (hS : laS_page I) (C : laC p l s m meth c G b n xs) {g g2 : Nat → Nat} {M M2 : fmM} {f : Nat → Int64} {o t : Nat} {i : Int32} {cu su : Nat} (hi : laI n i t) (hcu : cu + 1 ≤ 601024) (hsu : su + 6 ≤ 7293034) (hcu1 : cu + 1 + 1 ≤ 601024) (hsu1 : su + 6 + 6 ≤ 7293034) (hI : I M M2) (kk : ∀ (M' : fmM) (f' : Nat → Int64) (M2' : fmM), I M' M2' → zEv p l e room_1 s m #[.ref b] below meth c G (fun q => s.heap.size ≤ q) 8 (lw_Z below #[.ref b] s) 1967 [some (.ref b), some (.ref (g 0)), some (.ref (g2 0)), some (.ref o), some (.int i), none, none, none] [] (fmL Tx (g, G.2) M' ++ ((o, .inl (G.2.2.1 1, 1, .inr (.inl f'))) :: fmL Tm (g2, G.2) M2')) (cu + 1) (su + 6)) : zEv p l e room_1 s m #[.ref b] below meth c G (fun q => s.heap.size ≤ q) 8 (lw_Z below #[.ref b] s) 401 [some (.ref b), some (.ref (g 0)), some (.ref (g2 0)), some (.ref o), some (.int i), none, none, none] [] (fmL Tx (g, G.2) M ++ ((o, .inl (G.2.2.1 1, 1, .inr (.inl f))) :: fmL Tm (g2, G.2) M2)) cu su := by
  have h0 := hS M M2 (xs (t + 1)) hI
  refine z_aloadn C.1 (pc := 401) (n := 1) 1 rfl rfl (fm_dec dtLa_4 16 rfl) ?_
  refine la_arg C (pc := 402) (v := 1) (t + 1) rfl rfl (hi 1 (by decide)) (by decide) (fm_dec dtLa_4 17 rfl) (fm_dec dtLa_4 18 rfl) (fm_dec dtLa_4 19 rfl) (fm_dec dtLa_4 20 rfl) (fm_dec dtLa_4 21 rfl) ?_
  refine z_aloadn C.1 (pc := 408) (n := 3) 3 rfl rfl (fm_dec dtLa_4 22 rfl) ?_
  have hw : pvGood Tx 250 qX10_page [.ref 0, .int (xs (t + 1))] M (wI f (fun (r : Int32) (u : fmM × (Nat → Int64)) => pvGood Tm 250 qX11_page [.ref 0, .int (xs (t + 1))] M2 (fun r2 M2' => tI r2 ∧ I u.1 M2')) (fun E M' => (E = fmIAE ∧ (fun (r : Int32) (u : fmM × (Nat → Int64)) => pvGood Tm 250 qX11_page [.ref 0, .int (xs (t + 1))] M2 (fun r2 M2' => tI r2 ∧ I u.1 M2')) 1 (M', f)))) := h0.imp (fun r9 M9 h9 => by
    obtain ⟨h8, h2⟩ := h9
    rcases h8 with ⟨v, rfl⟩ | ⟨h6, rfl⟩ | ⟨h6, rfl⟩
    · exact h2
    · exact ⟨rfl, h2⟩
    · exact absurd h6 (by decide))
  refine z_callW C.1 (y' := qL_page) (hh := [(0, 9, 12, 13)]) (W0 := WX G g o (fmL Tm (g2, G.2) M2) (M, f)) (WW := WX G g o (fmL Tm (g2, G.2) M2)) (Q := fun (r : Int32) (u : fmM × (Nat → Int64)) => pvGood Tm 250 qX11_page [.ref 0, .int (xs (t + 1))] M2 (fun r2 M2' => tI r2 ∧ I u.1 M2')) (As := [.ref (g 0), .int (xs (t + 1)), .ref o]) (st := []) (pc := 409) (fm_in 895 (by decide +kernel) rfl) nst_L_page niL nw_L_page nd_L_page rfl rfl (by decide) (show 311 ≤ room_1.frames by decide) (show 8 + (4 + 11) + 18200 ≤ room_1.locals by decide) (rm_c hcu) (rm_s hsu) (fm_dec dtLa_4 23 rfl) (w_page C.2.2.2.2.2 hw) (fun r u hQ => ?_)
  obtain ⟨M1, f1⟩ := u
  refine z_istore C.1 (pc := 412) (i := 5) (by decide) rfl (fm_dec dtLa_4 24 rfl) ?_
  dsimp only [List.set_cons_zero, List.set_cons_succ]
  refine z_aloadn C.1 (pc := 414) (n := 2) 2 rfl rfl (fm_dec dtLa_4 25 rfl) ?_
  refine la_arg C (pc := 415) (v := 1) (t + 1) rfl rfl (hi 1 (by decide)) (by decide) (fm_dec dtLa_4 26 rfl) (fm_dec dtLa_4 27 rfl) (fm_dec dtLa_4 28 rfl) (fm_dec dtLa_4 29 rfl) (fm_dec dtLa_5 0 rfl) ?_
  have hcw := hcu1
  have hsw := hsu1
  refine z_perm (ws := (fmL Tx (g, G.2) M1 ++ ((o, .inl (G.2.2.1 1, 1, .inr (.inl f1))) :: fmL Tm (g2, G.2) M2))) (wpermW _ _ _) ?_
  refine la_ref C (pc := 421) (As := [.int (xs (t + 1))]) (st := []) cvL_144 (by decide +kernel) rfl rfl (Nat.le_of_ble_eq_true rfl) (by decide) hcw hsw (fm_dec dtLa_5 1 rfl) rfl hQ (fun r2 M3 h3 => ?_)
  obtain ⟨⟨v2, rfl⟩, hI3⟩ := h3
  refine z_then1 ?_
  refine z_istore C.1 (pc := 424) (i := 6) (by decide) rfl (fm_dec dtLa_5 2 rfl) ?_
  dsimp only [List.set_cons_zero, List.set_cons_succ]
  refine z_goto C.1 (pc := 426) 1967 (by decide) (fm_dec dtLa_5 3 rfl) ?_
  exact z_perm (wpermB _ _ _) (la_fgt (kk M1 f1 M3 hI3))
set_option maxRecDepth 20000 in
theorem la_c5 {p : Program} {l : Launch} {e : Env} {s : State} {m : MethodId} {below : List Frame} {meth : Method} {c : Code} {G : fmG} {b n : Nat} {xs : Nat → Int32} {I : fmM → fmM → Prop} (hS : laS_fault I) (C : laC p l s m meth c G b n xs) {g g2 : Nat → Nat} {M M2 : fmM} {f : Nat → Int64} {o t : Nat} {i : Int32} {cu su : Nat} (hi : laI n i t) (hcu : cu + 1 ≤ 601024) (hsu : su + 6 ≤ 7293034) (hcu1 : cu + 1 + 1 ≤ 601024) (hsu1 : su + 6 + 6 ≤ 7293034) (hI : I M M2) (kk : ∀ (M' : fmM) (f' : Nat → Int64) (M2' : fmM), I M' M2' → zEv p l e room_1 s m #[.ref b] below meth c G (fun q => s.heap.size ≤ q) 8 (lw_Z below #[.ref b] s) 1967 [some (.ref b), some (.ref (g 0)), some (.ref (g2 0)), some (.ref o), some (.int i), none, none, none] [] (fmL Tx (g, G.2) M' ++ ((o, .inl (G.2.2.1 1, 1, .inr (.inl f'))) :: fmL Tm (g2, G.2) M2')) (cu + 1) (su + 6)) : zEv p l e room_1 s m #[.ref b] below meth c G (fun q => s.heap.size ≤ q) 8 (lw_Z below #[.ref b] s) 429 [some (.ref b), some (.ref (g 0)), some (.ref (g2 0)), some (.ref o), some (.int i), none, none, none] [] (fmL Tx (g, G.2) M ++ ((o, .inl (G.2.2.1 1, 1, .inr (.inl f))) :: fmL Tm (g2, G.2) M2)) cu su := by
  have h0 := hS M M2 hI
  refine z_aloadn C.1 (pc := 429) (n := 1) 1 rfl rfl (fm_dec dtLa_5 4 rfl) ?_
  refine z_callX C.1 (T := Tx) (g := g) (M := M) (rest := (o, .inl (G.2.2.1 1, 1, .inr (.inl f))) :: fmL Tm (g2, G.2) M2) (k := 0) (ci := 10) (d' := 250) (pc := 430) (As := []) (st := []) cvL_145 (by decide) rfl rfl rfl (by decide) (rm_fr (by decide)) (rm_lo (by decide) (by decide)) (rm_c hcu) (rm_s hsu) (fm_dec dtLa_5 5 rfl) ?_
  refine fmGood.imp (pvGood.fm C.2.2.2.2.2 (by decide) (by decide +kernel) h0) (fun o9 M1 h9 => ?_)
  obtain ⟨o', rfl, h8, h2⟩ := h9
  rcases h8 with ⟨v, rfl⟩ | ⟨h8, -⟩ | ⟨h8, -⟩
  · refine z_then1 ?_
    refine z_pop C.1 (pc := 433) rfl (fm_dec dtLa_5 6 rfl) ?_
    refine z_aloadn C.1 (pc := 434) (n := 2) 2 rfl rfl (fm_dec dtLa_5 7 rfl) ?_
    have hcw := hcu
    have hsw := hsu
    refine z_perm (ws := (fmL Tx (g, G.2) M1 ++ ((o, .inl (G.2.2.1 1, 1, .inr (.inl f))) :: fmL Tm (g2, G.2) M2))) (wpermW _ _ _) ?_
    refine la_ref C (pc := 435) (As := []) (st := []) cvL_149 (by decide +kernel) rfl rfl (Nat.le_of_ble_eq_true rfl) (by decide) hcw hsw (fm_dec dtLa_5 8 rfl) rfl h2 (fun r2 M3 h3 => ?_)
    obtain ⟨⟨v2, rfl⟩, hI3⟩ := h3
    refine z_then1 ?_
    refine z_pop C.1 (pc := 438) rfl (fm_dec dtLa_5 9 rfl) ?_
    refine z_goto C.1 (pc := 439) 1967 (by decide) (fm_dec dtLa_5 10 rfl) ?_
    refine z_more (Nat.le_succ _) (Nat.le_add_right _ 6) ?_
    exact z_perm (wpermB _ _ _) (la_fgt (kk M1 f M3 hI3))
  · cases h8
  · cases h8
set_option maxRecDepth 20000 in
theorem la_c6 {p : Program} {l : Launch} {e : Env} {s : State} {m : MethodId} {below : List Frame} {meth : Method} {c : Code} {G : fmG} {b n : Nat} {xs : Nat → Int32} {I : fmM → fmM → Prop} (hS : laS_undo I) (C : laC p l s m meth c G b n xs) {g g2 : Nat → Nat} {M M2 : fmM} {f : Nat → Int64} {o t : Nat} {i : Int32} {cu su : Nat} (hi : laI n i t) (hcu : cu + 1 ≤ 601024) (hsu : su + 6 ≤ 7293034) (hcu1 : cu + 1 + 1 ≤ 601024) (hsu1 : su + 6 + 6 ≤ 7293034) (hI : I M M2) (kk : ∀ (M' : fmM) (f' : Nat → Int64) (M2' : fmM), I M' M2' → zEv p l e room_1 s m #[.ref b] below meth c G (fun q => s.heap.size ≤ q) 8 (lw_Z below #[.ref b] s) 1967 [some (.ref b), some (.ref (g 0)), some (.ref (g2 0)), some (.ref o), some (.int i), none, none, none] [] (fmL Tx (g, G.2) M' ++ ((o, .inl (G.2.2.1 1, 1, .inr (.inl f'))) :: fmL Tm (g2, G.2) M2')) (cu + 1) (su + 6)) : zEv p l e room_1 s m #[.ref b] below meth c G (fun q => s.heap.size ≤ q) 8 (lw_Z below #[.ref b] s) 442 [some (.ref b), some (.ref (g 0)), some (.ref (g2 0)), some (.ref o), some (.int i), none, none, none] [] (fmL Tx (g, G.2) M ++ ((o, .inl (G.2.2.1 1, 1, .inr (.inl f))) :: fmL Tm (g2, G.2) M2)) cu su := by
  have h0 := hS M M2 hI
  refine z_aloadn C.1 (pc := 442) (n := 1) 1 rfl rfl (fm_dec dtLa_5 11 rfl) ?_
  refine z_callX C.1 (T := Tx) (g := g) (M := M) (rest := (o, .inl (G.2.2.1 1, 1, .inr (.inl f))) :: fmL Tm (g2, G.2) M2) (k := 0) (ci := 10) (d' := 250) (pc := 443) (As := []) (st := []) cvL_150 (by decide) rfl rfl rfl (by decide) (rm_fr (by decide)) (rm_lo (by decide) (by decide)) (rm_c hcu) (rm_s hsu) (fm_dec dtLa_5 12 rfl) ?_
  refine fmGood.imp (pvGood.fm C.2.2.2.2.2 (by decide) (by decide +kernel) h0) (fun o9 M1 h9 => ?_)
  obtain ⟨o', rfl, h8, h2⟩ := h9
  rcases h8 with ⟨v, rfl⟩ | ⟨h8, -⟩ | ⟨h8, -⟩
  · refine z_then1 ?_
    refine z_pop C.1 (pc := 446) rfl (fm_dec dtLa_5 13 rfl) ?_
    refine z_aloadn C.1 (pc := 447) (n := 2) 2 rfl rfl (fm_dec dtLa_5 14 rfl) ?_
    have hcw := hcu
    have hsw := hsu
    refine z_perm (ws := (fmL Tx (g, G.2) M1 ++ ((o, .inl (G.2.2.1 1, 1, .inr (.inl f))) :: fmL Tm (g2, G.2) M2))) (wpermW _ _ _) ?_
    refine la_ref C (pc := 448) (As := []) (st := []) cvL_153 (by decide +kernel) rfl rfl (Nat.le_of_ble_eq_true rfl) (by decide) hcw hsw (fm_dec dtLa_5 15 rfl) rfl h2 (fun r2 M3 h3 => ?_)
    obtain ⟨⟨v2, rfl⟩, hI3⟩ := h3
    refine z_then1 ?_
    refine z_pop C.1 (pc := 451) rfl (fm_dec dtLa_5 16 rfl) ?_
    refine z_goto C.1 (pc := 452) 1967 (by decide) (fm_dec dtLa_5 17 rfl) ?_
    refine z_more (Nat.le_succ _) (Nat.le_add_right _ 6) ?_
    exact z_perm (wpermB _ _ _) (la_fgt (kk M1 f M3 hI3))
  · cases h8
  · cases h8
set_option maxRecDepth 20000 in
theorem la_c7 {p : Program} {l : Launch} {e : Env} {s : State} {m : MethodId} {below : List Frame} {meth : Method} {c : Code} {G : fmG} {b n : Nat} {xs : Nat → Int32} {I : fmM → fmM → Prop} (hS : laS_told I) (C : laC p l s m meth c G b n xs) {g g2 : Nat → Nat} {M M2 : fmM} {f : Nat → Int64} {o t : Nat} {i : Int32} {cu su : Nat} (hi : laI n i t) (hcu : cu + 1 ≤ 601024) (hsu : su + 6 ≤ 7293034) (hcu1 : cu + 1 + 1 ≤ 601024) (hsu1 : su + 6 + 6 ≤ 7293034) (hI : I M M2) (kk : ∀ (M' : fmM) (f' : Nat → Int64) (M2' : fmM), I M' M2' → zEv p l e room_1 s m #[.ref b] below meth c G (fun q => s.heap.size ≤ q) 8 (lw_Z below #[.ref b] s) 1967 [some (.ref b), some (.ref (g 0)), some (.ref (g2 0)), some (.ref o), some (.int i), none, none, none] [] (fmL Tx (g, G.2) M' ++ ((o, .inl (G.2.2.1 1, 1, .inr (.inl f'))) :: fmL Tm (g2, G.2) M2')) (cu + 1) (su + 6)) : zEv p l e room_1 s m #[.ref b] below meth c G (fun q => s.heap.size ≤ q) 8 (lw_Z below #[.ref b] s) 455 [some (.ref b), some (.ref (g 0)), some (.ref (g2 0)), some (.ref o), some (.int i), none, none, none] [] (fmL Tx (g, G.2) M ++ ((o, .inl (G.2.2.1 1, 1, .inr (.inl f))) :: fmL Tm (g2, G.2) M2)) cu su := by
  have h0 := hS M M2 (xs (t + 1)) hI
  refine z_aloadn C.1 (pc := 455) (n := 1) 1 rfl rfl (fm_dec dtLa_5 18 rfl) ?_
  refine la_arg C (pc := 456) (v := 1) (t + 1) rfl rfl (hi 1 (by decide)) (by decide) (fm_dec dtLa_5 19 rfl) (fm_dec dtLa_5 20 rfl) (fm_dec dtLa_5 21 rfl) (fm_dec dtLa_5 22 rfl) (fm_dec dtLa_5 23 rfl) ?_
  refine z_aloadn C.1 (pc := 462) (n := 3) 3 rfl rfl (fm_dec dtLa_5 24 rfl) ?_
  have hw : pvGood Tx 250 qX10_told [.ref 0, .int (xs (t + 1))] M (wI f (fun (r : Int32) (u : fmM × (Nat → Int64)) => pvGood Tm 250 qX11_told [.ref 0, .int (xs (t + 1))] M2 (fun r2 M2' => tI r2 ∧ I u.1 M2')) (fun E M' => (E = fmIAE ∧ (fun (r : Int32) (u : fmM × (Nat → Int64)) => pvGood Tm 250 qX11_told [.ref 0, .int (xs (t + 1))] M2 (fun r2 M2' => tI r2 ∧ I u.1 M2')) 1 (M', f)))) := h0.imp (fun r9 M9 h9 => by
    obtain ⟨h8, h2⟩ := h9
    rcases h8 with ⟨v, rfl⟩ | ⟨h6, rfl⟩ | ⟨h6, rfl⟩
    · exact h2
    · exact ⟨rfl, h2⟩
    · exact absurd h6 (by decide))
  refine z_callW C.1 (y' := qL_told) (hh := [(0, 9, 12, 13)]) (W0 := WX G g o (fmL Tm (g2, G.2) M2) (M, f)) (WW := WX G g o (fmL Tm (g2, G.2) M2)) (Q := fun (r : Int32) (u : fmM × (Nat → Int64)) => pvGood Tm 250 qX11_told [.ref 0, .int (xs (t + 1))] M2 (fun r2 M2' => tI r2 ∧ I u.1 M2')) (As := [.ref (g 0), .int (xs (t + 1)), .ref o]) (st := []) (pc := 463) (fm_in 918 (by decide +kernel) rfl) nst_L_told niL nw_L_told nd_L_told rfl rfl (by decide) (show 311 ≤ room_1.frames by decide) (show 8 + (4 + 11) + 18200 ≤ room_1.locals by decide) (rm_c hcu) (rm_s hsu) (fm_dec dtLa_5 25 rfl) (w_told C.2.2.2.2.2 hw) (fun r u hQ => ?_)
  obtain ⟨M1, f1⟩ := u
  refine z_istore C.1 (pc := 466) (i := 5) (by decide) rfl (fm_dec dtLa_5 26 rfl) ?_
  dsimp only [List.set_cons_zero, List.set_cons_succ]
  refine z_aloadn C.1 (pc := 468) (n := 2) 2 rfl rfl (fm_dec dtLa_5 27 rfl) ?_
  refine la_arg C (pc := 469) (v := 1) (t + 1) rfl rfl (hi 1 (by decide)) (by decide) (fm_dec dtLa_5 28 rfl) (fm_dec dtLa_5 29 rfl) (fm_dec dtLa_6 0 rfl) (fm_dec dtLa_6 1 rfl) (fm_dec dtLa_6 2 rfl) ?_
  have hcw := hcu1
  have hsw := hsu1
  refine z_perm (ws := (fmL Tx (g, G.2) M1 ++ ((o, .inl (G.2.2.1 1, 1, .inr (.inl f1))) :: fmL Tm (g2, G.2) M2))) (wpermW _ _ _) ?_
  refine la_ref C (pc := 475) (As := [.int (xs (t + 1))]) (st := []) cvL_156 (by decide +kernel) rfl rfl (Nat.le_of_ble_eq_true rfl) (by decide) hcw hsw (fm_dec dtLa_6 3 rfl) rfl hQ (fun r2 M3 h3 => ?_)
  obtain ⟨⟨v2, rfl⟩, hI3⟩ := h3
  refine z_then1 ?_
  refine z_istore C.1 (pc := 478) (i := 6) (by decide) rfl (fm_dec dtLa_6 4 rfl) ?_
  dsimp only [List.set_cons_zero, List.set_cons_succ]
  refine z_goto C.1 (pc := 480) 1967 (by decide) (fm_dec dtLa_6 5 rfl) ?_
  exact z_perm (wpermB _ _ _) (la_fgt (kk M1 f1 M3 hI3))
set_option maxRecDepth 20000 in
theorem la_c8 {p : Program} {l : Launch} {e : Env} {s : State} {m : MethodId} {below : List Frame} {meth : Method} {c : Code} {G : fmG} {b n : Nat} {xs : Nat → Int32} {I : fmM → fmM → Prop} (hS : laS_life I) (C : laC p l s m meth c G b n xs) {g g2 : Nat → Nat} {M M2 : fmM} {f : Nat → Int64} {o t : Nat} {i : Int32} {cu su : Nat} (hi : laI n i t) (hcu : cu + 1 ≤ 601024) (hsu : su + 6 ≤ 7293034) (hcu1 : cu + 1 + 1 ≤ 601024) (hsu1 : su + 6 + 6 ≤ 7293034) (hI : I M M2) (kk : ∀ (M' : fmM) (f' : Nat → Int64) (M2' : fmM), I M' M2' → zEv p l e room_1 s m #[.ref b] below meth c G (fun q => s.heap.size ≤ q) 8 (lw_Z below #[.ref b] s) 1967 [some (.ref b), some (.ref (g 0)), some (.ref (g2 0)), some (.ref o), some (.int i), none, none, none] [] (fmL Tx (g, G.2) M' ++ ((o, .inl (G.2.2.1 1, 1, .inr (.inl f'))) :: fmL Tm (g2, G.2) M2')) (cu + 1) (su + 6)) : zEv p l e room_1 s m #[.ref b] below meth c G (fun q => s.heap.size ≤ q) 8 (lw_Z below #[.ref b] s) 483 [some (.ref b), some (.ref (g 0)), some (.ref (g2 0)), some (.ref o), some (.int i), none, none, none] [] (fmL Tx (g, G.2) M ++ ((o, .inl (G.2.2.1 1, 1, .inr (.inl f))) :: fmL Tm (g2, G.2) M2)) cu su := by
  have h0 := hS M M2 (xs (t + 1)) (xs (t + 2)) hI
  refine z_aloadn C.1 (pc := 483) (n := 1) 1 rfl rfl (fm_dec dtLa_6 6 rfl) ?_
  refine la_arg C (pc := 484) (v := 1) (t + 1) rfl rfl (hi 1 (by decide)) (by decide) (fm_dec dtLa_6 7 rfl) (fm_dec dtLa_6 8 rfl) (fm_dec dtLa_6 9 rfl) (fm_dec dtLa_6 10 rfl) (fm_dec dtLa_6 11 rfl) ?_
  refine la_arg C (pc := 490) (v := 2) (t + 2) rfl rfl (hi 2 (by decide)) (by decide) (fm_dec dtLa_6 12 rfl) (fm_dec dtLa_6 13 rfl) (fm_dec dtLa_6 14 rfl) (fm_dec dtLa_6 15 rfl) (fm_dec dtLa_6 16 rfl) ?_
  refine z_aloadn C.1 (pc := 496) (n := 3) 3 rfl rfl (fm_dec dtLa_6 17 rfl) ?_
  have hw : pvGood Tx 250 qX10_life [.ref 0, .int (xs (t + 1)), .int (xs (t + 2))] M (wI f (fun (r : Int32) (u : fmM × (Nat → Int64)) => pvGood Tm 250 qX11_life [.ref 0, .int (xs (t + 1)), .int (xs (t + 2))] M2 (fun r2 M2' => tI r2 ∧ I u.1 M2')) (fun E M' => (E = fmNSE ∧ (fun (r : Int32) (u : fmM × (Nat → Int64)) => pvGood Tm 250 qX11_life [.ref 0, .int (xs (t + 1)), .int (xs (t + 2))] M2 (fun r2 M2' => tI r2 ∧ I u.1 M2')) 1 (M', f)) ∨ (E = fmIAE ∧ (fun (r : Int32) (u : fmM × (Nat → Int64)) => pvGood Tm 250 qX11_life [.ref 0, .int (xs (t + 1)), .int (xs (t + 2))] M2 (fun r2 M2' => tI r2 ∧ I u.1 M2')) 2 (M', f)))) := h0.imp (fun r9 M9 h9 => by
    obtain ⟨h8, h2⟩ := h9
    rcases h8 with ⟨v, rfl⟩ | ⟨-, rfl⟩ | ⟨-, rfl⟩
    · exact h2
    · exact Or.inr ⟨rfl, h2⟩
    · exact Or.inl ⟨rfl, h2⟩)
  refine z_callW C.1 (y' := qL_life) (hh := [(0, 10, 13, 31), (0, 10, 17, 13)]) (W0 := WX G g o (fmL Tm (g2, G.2) M2) (M, f)) (WW := WX G g o (fmL Tm (g2, G.2) M2)) (Q := fun (r : Int32) (u : fmM × (Nat → Int64)) => pvGood Tm 250 qX11_life [.ref 0, .int (xs (t + 1)), .int (xs (t + 2))] M2 (fun r2 M2' => tI r2 ∧ I u.1 M2')) (As := [.ref (g 0), .int (xs (t + 1)), .int (xs (t + 2)), .ref o]) (st := []) (pc := 497) (fm_in 930 (by decide +kernel) rfl) nst_L_life niL nw_L_life nd_L_life rfl rfl (by decide) (show 311 ≤ room_1.frames by decide) (show 8 + (5 + 11) + 18200 ≤ room_1.locals by decide) (rm_c hcu) (rm_s hsu) (fm_dec dtLa_6 18 rfl) (w_life C.2.2.2.2.2 hw) (fun r u hQ => ?_)
  obtain ⟨M1, f1⟩ := u
  refine z_istore C.1 (pc := 500) (i := 5) (by decide) rfl (fm_dec dtLa_6 19 rfl) ?_
  dsimp only [List.set_cons_zero, List.set_cons_succ]
  refine z_aloadn C.1 (pc := 502) (n := 2) 2 rfl rfl (fm_dec dtLa_6 20 rfl) ?_
  refine la_arg C (pc := 503) (v := 1) (t + 1) rfl rfl (hi 1 (by decide)) (by decide) (fm_dec dtLa_6 21 rfl) (fm_dec dtLa_6 22 rfl) (fm_dec dtLa_6 23 rfl) (fm_dec dtLa_6 24 rfl) (fm_dec dtLa_6 25 rfl) ?_
  refine la_arg C (pc := 509) (v := 2) (t + 2) rfl rfl (hi 2 (by decide)) (by decide) (fm_dec dtLa_6 26 rfl) (fm_dec dtLa_6 27 rfl) (fm_dec dtLa_6 28 rfl) (fm_dec dtLa_6 29 rfl) (fm_dec dtLa_7 0 rfl) ?_
  have hcw := hcu1
  have hsw := hsu1
  refine z_perm (ws := (fmL Tx (g, G.2) M1 ++ ((o, .inl (G.2.2.1 1, 1, .inr (.inl f1))) :: fmL Tm (g2, G.2) M2))) (wpermW _ _ _) ?_
  refine la_ref C (pc := 515) (As := [.int (xs (t + 1)), .int (xs (t + 2))]) (st := []) cvL_160 (by decide +kernel) rfl rfl (Nat.le_of_ble_eq_true rfl) (by decide) hcw hsw (fm_dec dtLa_7 1 rfl) rfl hQ (fun r2 M3 h3 => ?_)
  obtain ⟨⟨v2, rfl⟩, hI3⟩ := h3
  refine z_then1 ?_
  refine z_istore C.1 (pc := 518) (i := 6) (by decide) rfl (fm_dec dtLa_7 2 rfl) ?_
  dsimp only [List.set_cons_zero, List.set_cons_succ]
  refine z_goto C.1 (pc := 520) 1967 (by decide) (fm_dec dtLa_7 3 rfl) ?_
  exact z_perm (wpermB _ _ _) (la_fgt (kk M1 f1 M3 hI3))
set_option maxRecDepth 20000 in
theorem la_c9 {p : Program} {l : Launch} {e : Env} {s : State} {m : MethodId} {below : List Frame} {meth : Method} {c : Code} {G : fmG} {b n : Nat} {xs : Nat → Int32} {I : fmM → fmM → Prop} (hS : laS_facts I) (C : laC p l s m meth c G b n xs) {g g2 : Nat → Nat} {M M2 : fmM} {f : Nat → Int64} {o t : Nat} {i : Int32} {cu su : Nat} (hi : laI n i t) (hcu : cu + 1 ≤ 601024) (hsu : su + 6 ≤ 7293034) (hcu1 : cu + 1 + 1 ≤ 601024) (hsu1 : su + 6 + 6 ≤ 7293034) (hI : I M M2) (kk : ∀ (M' : fmM) (f' : Nat → Int64) (M2' : fmM), I M' M2' → zEv p l e room_1 s m #[.ref b] below meth c G (fun q => s.heap.size ≤ q) 8 (lw_Z below #[.ref b] s) 1967 [some (.ref b), some (.ref (g 0)), some (.ref (g2 0)), some (.ref o), some (.int i), none, none, none] [] (fmL Tx (g, G.2) M' ++ ((o, .inl (G.2.2.1 1, 1, .inr (.inl f'))) :: fmL Tm (g2, G.2) M2')) (cu + 1) (su + 6)) : zEv p l e room_1 s m #[.ref b] below meth c G (fun q => s.heap.size ≤ q) 8 (lw_Z below #[.ref b] s) 523 [some (.ref b), some (.ref (g 0)), some (.ref (g2 0)), some (.ref o), some (.int i), none, none, none] [] (fmL Tx (g, G.2) M ++ ((o, .inl (G.2.2.1 1, 1, .inr (.inl f))) :: fmL Tm (g2, G.2) M2)) cu su := by
  have h0 := hS M M2 (xs (t + 1)) hI
  refine z_aloadn C.1 (pc := 523) (n := 1) 1 rfl rfl (fm_dec dtLa_7 4 rfl) ?_
  refine la_arg C (pc := 524) (v := 1) (t + 1) rfl rfl (hi 1 (by decide)) (by decide) (fm_dec dtLa_7 5 rfl) (fm_dec dtLa_7 6 rfl) (fm_dec dtLa_7 7 rfl) (fm_dec dtLa_7 8 rfl) (fm_dec dtLa_7 9 rfl) ?_
  refine z_aloadn C.1 (pc := 530) (n := 3) 3 rfl rfl (fm_dec dtLa_7 10 rfl) ?_
  have hw : pvGood Tx 250 qX10_facts [.ref 0, .int (xs (t + 1))] M (wI f (fun (r : Int32) (u : fmM × (Nat → Int64)) => pvGood Tm 250 qX11_facts [.ref 0, .int (xs (t + 1))] M2 (fun r2 M2' => tI r2 ∧ I u.1 M2')) (fun E M' => (E = fmNSE ∧ (fun (r : Int32) (u : fmM × (Nat → Int64)) => pvGood Tm 250 qX11_facts [.ref 0, .int (xs (t + 1))] M2 (fun r2 M2' => tI r2 ∧ I u.1 M2')) 1 (M', f)))) := h0.imp (fun r9 M9 h9 => by
    obtain ⟨h8, h2⟩ := h9
    rcases h8 with ⟨v, rfl⟩ | ⟨h6, rfl⟩ | ⟨h6, rfl⟩
    · exact h2
    · exact absurd h6 (by decide)
    · exact ⟨rfl, h2⟩)
  refine z_callW C.1 (y' := qL_facts) (hh := [(0, 9, 12, 31)]) (W0 := WX G g o (fmL Tm (g2, G.2) M2) (M, f)) (WW := WX G g o (fmL Tm (g2, G.2) M2)) (Q := fun (r : Int32) (u : fmM × (Nat → Int64)) => pvGood Tm 250 qX11_facts [.ref 0, .int (xs (t + 1))] M2 (fun r2 M2' => tI r2 ∧ I u.1 M2')) (As := [.ref (g 0), .int (xs (t + 1)), .ref o]) (st := []) (pc := 531) (fm_in 960 (by decide +kernel) rfl) nst_L_facts niL nw_L_facts nd_L_facts rfl rfl (by decide) (show 311 ≤ room_1.frames by decide) (show 8 + (4 + 11) + 18200 ≤ room_1.locals by decide) (rm_c hcu) (rm_s hsu) (fm_dec dtLa_7 11 rfl) (w_facts C.2.2.2.2.2 hw) (fun r u hQ => ?_)
  obtain ⟨M1, f1⟩ := u
  refine z_istore C.1 (pc := 534) (i := 5) (by decide) rfl (fm_dec dtLa_7 12 rfl) ?_
  dsimp only [List.set_cons_zero, List.set_cons_succ]
  refine z_aloadn C.1 (pc := 536) (n := 2) 2 rfl rfl (fm_dec dtLa_7 13 rfl) ?_
  refine la_arg C (pc := 537) (v := 1) (t + 1) rfl rfl (hi 1 (by decide)) (by decide) (fm_dec dtLa_7 14 rfl) (fm_dec dtLa_7 15 rfl) (fm_dec dtLa_7 16 rfl) (fm_dec dtLa_7 17 rfl) (fm_dec dtLa_7 18 rfl) ?_
  have hcw := hcu1
  have hsw := hsu1
  refine z_perm (ws := (fmL Tx (g, G.2) M1 ++ ((o, .inl (G.2.2.1 1, 1, .inr (.inl f1))) :: fmL Tm (g2, G.2) M2))) (wpermW _ _ _) ?_
  refine la_ref C (pc := 543) (As := [.int (xs (t + 1))]) (st := []) cvL_163 (by decide +kernel) rfl rfl (Nat.le_of_ble_eq_true rfl) (by decide) hcw hsw (fm_dec dtLa_7 19 rfl) rfl hQ (fun r2 M3 h3 => ?_)
  obtain ⟨⟨v2, rfl⟩, hI3⟩ := h3
  refine z_then1 ?_
  refine z_istore C.1 (pc := 546) (i := 6) (by decide) rfl (fm_dec dtLa_7 20 rfl) ?_
  dsimp only [List.set_cons_zero, List.set_cons_succ]
  refine z_goto C.1 (pc := 548) 1967 (by decide) (fm_dec dtLa_7 21 rfl) ?_
  exact z_perm (wpermB _ _ _) (la_fgt (kk M1 f1 M3 hI3))
set_option maxRecDepth 20000 in
theorem la_c10 {p : Program} {l : Launch} {e : Env} {s : State} {m : MethodId} {below : List Frame} {meth : Method} {c : Code} {G : fmG} {b n : Nat} {xs : Nat → Int32} {I : fmM → fmM → Prop} (hS : laS_wrong I) (C : laC p l s m meth c G b n xs) {g g2 : Nat → Nat} {M M2 : fmM} {f : Nat → Int64} {o t : Nat} {i : Int32} {cu su : Nat} (hi : laI n i t) (hcu : cu + 1 ≤ 601024) (hsu : su + 6 ≤ 7293034) (hcu1 : cu + 1 + 1 ≤ 601024) (hsu1 : su + 6 + 6 ≤ 7293034) (hI : I M M2) (kk : ∀ (M' : fmM) (f' : Nat → Int64) (M2' : fmM), I M' M2' → zEv p l e room_1 s m #[.ref b] below meth c G (fun q => s.heap.size ≤ q) 8 (lw_Z below #[.ref b] s) 1967 [some (.ref b), some (.ref (g 0)), some (.ref (g2 0)), some (.ref o), some (.int i), none, none, none] [] (fmL Tx (g, G.2) M' ++ ((o, .inl (G.2.2.1 1, 1, .inr (.inl f'))) :: fmL Tm (g2, G.2) M2')) (cu + 1) (su + 6)) : zEv p l e room_1 s m #[.ref b] below meth c G (fun q => s.heap.size ≤ q) 8 (lw_Z below #[.ref b] s) 551 [some (.ref b), some (.ref (g 0)), some (.ref (g2 0)), some (.ref o), some (.int i), none, none, none] [] (fmL Tx (g, G.2) M ++ ((o, .inl (G.2.2.1 1, 1, .inr (.inl f))) :: fmL Tm (g2, G.2) M2)) cu su := by
  have h0 := hS M M2 (xs (t + 1)) hI
  refine z_aloadn C.1 (pc := 551) (n := 1) 1 rfl rfl (fm_dec dtLa_7 22 rfl) ?_
  refine la_arg C (pc := 552) (v := 1) (t + 1) rfl rfl (hi 1 (by decide)) (by decide) (fm_dec dtLa_7 23 rfl) (fm_dec dtLa_7 24 rfl) (fm_dec dtLa_7 25 rfl) (fm_dec dtLa_7 26 rfl) (fm_dec dtLa_7 27 rfl) ?_
  refine z_aloadn C.1 (pc := 558) (n := 3) 3 rfl rfl (fm_dec dtLa_7 28 rfl) ?_
  have hw : pvGood Tx 250 qX10_wrong [.ref 0, .int (xs (t + 1))] M (wI f (fun (r : Int32) (u : fmM × (Nat → Int64)) => pvGood Tm 250 qX11_wrong [.ref 0, .int (xs (t + 1))] M2 (fun r2 M2' => tI r2 ∧ I u.1 M2')) (fun E M' => (E = fmNSE ∧ (fun (r : Int32) (u : fmM × (Nat → Int64)) => pvGood Tm 250 qX11_wrong [.ref 0, .int (xs (t + 1))] M2 (fun r2 M2' => tI r2 ∧ I u.1 M2')) 1 (M', f)))) := h0.imp (fun r9 M9 h9 => by
    obtain ⟨h8, h2⟩ := h9
    rcases h8 with ⟨v, rfl⟩ | ⟨h6, rfl⟩ | ⟨h6, rfl⟩
    · exact h2
    · exact absurd h6 (by decide)
    · exact ⟨rfl, h2⟩)
  refine z_callW C.1 (y' := qL_wrong) (hh := [(0, 9, 12, 31)]) (W0 := WX G g o (fmL Tm (g2, G.2) M2) (M, f)) (WW := WX G g o (fmL Tm (g2, G.2) M2)) (Q := fun (r : Int32) (u : fmM × (Nat → Int64)) => pvGood Tm 250 qX11_wrong [.ref 0, .int (xs (t + 1))] M2 (fun r2 M2' => tI r2 ∧ I u.1 M2')) (As := [.ref (g 0), .int (xs (t + 1)), .ref o]) (st := []) (pc := 559) (fm_in 967 (by decide +kernel) rfl) nst_L_wrong niL nw_L_wrong nd_L_wrong rfl rfl (by decide) (show 311 ≤ room_1.frames by decide) (show 8 + (4 + 11) + 18200 ≤ room_1.locals by decide) (rm_c hcu) (rm_s hsu) (fm_dec dtLa_7 29 rfl) (w_wrong C.2.2.2.2.2 hw) (fun r u hQ => ?_)
  obtain ⟨M1, f1⟩ := u
  refine z_istore C.1 (pc := 562) (i := 5) (by decide) rfl (fm_dec dtLa_8 0 rfl) ?_
  dsimp only [List.set_cons_zero, List.set_cons_succ]
  refine z_aloadn C.1 (pc := 564) (n := 2) 2 rfl rfl (fm_dec dtLa_8 1 rfl) ?_
  refine la_arg C (pc := 565) (v := 1) (t + 1) rfl rfl (hi 1 (by decide)) (by decide) (fm_dec dtLa_8 2 rfl) (fm_dec dtLa_8 3 rfl) (fm_dec dtLa_8 4 rfl) (fm_dec dtLa_8 5 rfl) (fm_dec dtLa_8 6 rfl) ?_
  have hcw := hcu1
  have hsw := hsu1
  refine z_perm (ws := (fmL Tx (g, G.2) M1 ++ ((o, .inl (G.2.2.1 1, 1, .inr (.inl f1))) :: fmL Tm (g2, G.2) M2))) (wpermW _ _ _) ?_
  refine la_ref C (pc := 571) (As := [.int (xs (t + 1))]) (st := []) cvL_166 (by decide +kernel) rfl rfl (Nat.le_of_ble_eq_true rfl) (by decide) hcw hsw (fm_dec dtLa_8 7 rfl) rfl hQ (fun r2 M3 h3 => ?_)
  obtain ⟨⟨v2, rfl⟩, hI3⟩ := h3
  refine z_then1 ?_
  refine z_istore C.1 (pc := 574) (i := 6) (by decide) rfl (fm_dec dtLa_8 8 rfl) ?_
  dsimp only [List.set_cons_zero, List.set_cons_succ]
  refine z_goto C.1 (pc := 576) 1967 (by decide) (fm_dec dtLa_8 9 rfl) ?_
  exact z_perm (wpermB _ _ _) (la_fgt (kk M1 f1 M3 hI3))
set_option maxRecDepth 20000 in
theorem la_c11 {p : Program} {l : Launch} {e : Env} {s : State} {m : MethodId} {below : List Frame} {meth : Method} {c : Code} {G : fmG} {b n : Nat} {xs : Nat → Int32} {I : fmM → fmM → Prop} (hS : laS_would I) (C : laC p l s m meth c G b n xs) {g g2 : Nat → Nat} {M M2 : fmM} {f : Nat → Int64} {o t : Nat} {i : Int32} {cu su : Nat} (hi : laI n i t) (hcu : cu + 1 ≤ 601024) (hsu : su + 6 ≤ 7293034) (hcu1 : cu + 1 + 1 ≤ 601024) (hsu1 : su + 6 + 6 ≤ 7293034) (hI : I M M2) (kk : ∀ (M' : fmM) (f' : Nat → Int64) (M2' : fmM), I M' M2' → zEv p l e room_1 s m #[.ref b] below meth c G (fun q => s.heap.size ≤ q) 8 (lw_Z below #[.ref b] s) 1967 [some (.ref b), some (.ref (g 0)), some (.ref (g2 0)), some (.ref o), some (.int i), none, none, none] [] (fmL Tx (g, G.2) M' ++ ((o, .inl (G.2.2.1 1, 1, .inr (.inl f'))) :: fmL Tm (g2, G.2) M2')) (cu + 1) (su + 6)) : zEv p l e room_1 s m #[.ref b] below meth c G (fun q => s.heap.size ≤ q) 8 (lw_Z below #[.ref b] s) 579 [some (.ref b), some (.ref (g 0)), some (.ref (g2 0)), some (.ref o), some (.int i), none, none, none] [] (fmL Tx (g, G.2) M ++ ((o, .inl (G.2.2.1 1, 1, .inr (.inl f))) :: fmL Tm (g2, G.2) M2)) cu su := by
  have h0 := hS M M2 (xs (t + 1)) (xs (t + 2)) (xs (t + 3)) (xs (t + 4)) (xs (t + 5)) hI
  refine z_aloadn C.1 (pc := 579) (n := 1) 1 rfl rfl (fm_dec dtLa_8 10 rfl) ?_
  refine la_arg C (pc := 580) (v := 1) (t + 1) rfl rfl (hi 1 (by decide)) (by decide) (fm_dec dtLa_8 11 rfl) (fm_dec dtLa_8 12 rfl) (fm_dec dtLa_8 13 rfl) (fm_dec dtLa_8 14 rfl) (fm_dec dtLa_8 15 rfl) ?_
  refine la_arg C (pc := 586) (v := 2) (t + 2) rfl rfl (hi 2 (by decide)) (by decide) (fm_dec dtLa_8 16 rfl) (fm_dec dtLa_8 17 rfl) (fm_dec dtLa_8 18 rfl) (fm_dec dtLa_8 19 rfl) (fm_dec dtLa_8 20 rfl) ?_
  refine la_arg C (pc := 592) (v := 3) (t + 3) rfl rfl (hi 3 (by decide)) (by decide) (fm_dec dtLa_8 21 rfl) (fm_dec dtLa_8 22 rfl) (fm_dec dtLa_8 23 rfl) (fm_dec dtLa_8 24 rfl) (fm_dec dtLa_8 25 rfl) ?_
  refine la_arg C (pc := 598) (v := 4) (t + 4) rfl rfl (hi 4 (by decide)) (by decide) (fm_dec dtLa_8 26 rfl) (fm_dec dtLa_8 27 rfl) (fm_dec dtLa_8 28 rfl) (fm_dec dtLa_8 29 rfl) (fm_dec dtLa_9 0 rfl) ?_
  refine la_arg C (pc := 604) (v := 5) (t + 5) rfl rfl (hi 5 (by decide)) (by decide) (fm_dec dtLa_9 1 rfl) (fm_dec dtLa_9 2 rfl) (fm_dec dtLa_9 3 rfl) (fm_dec dtLa_9 4 rfl) (fm_dec dtLa_9 5 rfl) ?_
  refine z_aloadn C.1 (pc := 610) (n := 3) 3 rfl rfl (fm_dec dtLa_9 6 rfl) ?_
  have hw : pvGood Tx 250 qX10_would [.ref 0, .int (xs (t + 1)), .int (xs (t + 2)), .int (xs (t + 3)), .int (xs (t + 4)), .int (xs (t + 5))] M (wI f (fun (r : Int32) (u : fmM × (Nat → Int64)) => pvGood Tm 250 qX11_would [.ref 0, .int (xs (t + 1)), .int (xs (t + 2)), .int (xs (t + 3)), .int (xs (t + 4)), .int (xs (t + 5))] M2 (fun r2 M2' => tI r2 ∧ I u.1 M2')) (fun E M' => (E = fmIAE ∧ (fun (r : Int32) (u : fmM × (Nat → Int64)) => pvGood Tm 250 qX11_would [.ref 0, .int (xs (t + 1)), .int (xs (t + 2)), .int (xs (t + 3)), .int (xs (t + 4)), .int (xs (t + 5))] M2 (fun r2 M2' => tI r2 ∧ I u.1 M2')) 1 (M', f)))) := h0.imp (fun r9 M9 h9 => by
    obtain ⟨h8, h2⟩ := h9
    rcases h8 with ⟨v, rfl⟩ | ⟨h6, rfl⟩ | ⟨h6, rfl⟩
    · exact h2
    · exact ⟨rfl, h2⟩
    · exact absurd h6 (by decide))
  refine z_callW C.1 (y' := qL_would) (hh := [(0, 16, 19, 13)]) (W0 := WX G g o (fmL Tm (g2, G.2) M2) (M, f)) (WW := WX G g o (fmL Tm (g2, G.2) M2)) (Q := fun (r : Int32) (u : fmM × (Nat → Int64)) => pvGood Tm 250 qX11_would [.ref 0, .int (xs (t + 1)), .int (xs (t + 2)), .int (xs (t + 3)), .int (xs (t + 4)), .int (xs (t + 5))] M2 (fun r2 M2' => tI r2 ∧ I u.1 M2')) (As := [.ref (g 0), .int (xs (t + 1)), .int (xs (t + 2)), .int (xs (t + 3)), .int (xs (t + 4)), .int (xs (t + 5)), .ref o]) (st := []) (pc := 611) (fm_in 975 (by decide +kernel) rfl) nst_L_would niL nw_L_would nd_L_would rfl rfl (by decide) (show 311 ≤ room_1.frames by decide) (show 8 + (8 + 11) + 18200 ≤ room_1.locals by decide) (rm_c hcu) (rm_s hsu) (fm_dec dtLa_9 7 rfl) (w_would C.2.2.2.2.2 hw) (fun r u hQ => ?_)
  obtain ⟨M1, f1⟩ := u
  refine z_istore C.1 (pc := 614) (i := 5) (by decide) rfl (fm_dec dtLa_9 8 rfl) ?_
  dsimp only [List.set_cons_zero, List.set_cons_succ]
  refine z_aloadn C.1 (pc := 616) (n := 2) 2 rfl rfl (fm_dec dtLa_9 9 rfl) ?_
  refine la_arg C (pc := 617) (v := 1) (t + 1) rfl rfl (hi 1 (by decide)) (by decide) (fm_dec dtLa_9 10 rfl) (fm_dec dtLa_9 11 rfl) (fm_dec dtLa_9 12 rfl) (fm_dec dtLa_9 13 rfl) (fm_dec dtLa_9 14 rfl) ?_
  refine la_arg C (pc := 623) (v := 2) (t + 2) rfl rfl (hi 2 (by decide)) (by decide) (fm_dec dtLa_9 15 rfl) (fm_dec dtLa_9 16 rfl) (fm_dec dtLa_9 17 rfl) (fm_dec dtLa_9 18 rfl) (fm_dec dtLa_9 19 rfl) ?_
  refine la_arg C (pc := 629) (v := 3) (t + 3) rfl rfl (hi 3 (by decide)) (by decide) (fm_dec dtLa_9 20 rfl) (fm_dec dtLa_9 21 rfl) (fm_dec dtLa_9 22 rfl) (fm_dec dtLa_9 23 rfl) (fm_dec dtLa_9 24 rfl) ?_
  refine la_arg C (pc := 635) (v := 4) (t + 4) rfl rfl (hi 4 (by decide)) (by decide) (fm_dec dtLa_9 25 rfl) (fm_dec dtLa_9 26 rfl) (fm_dec dtLa_9 27 rfl) (fm_dec dtLa_9 28 rfl) (fm_dec dtLa_9 29 rfl) ?_
  refine la_arg C (pc := 641) (v := 5) (t + 5) rfl rfl (hi 5 (by decide)) (by decide) (fm_dec dtLa_10 0 rfl) (fm_dec dtLa_10 1 rfl) (fm_dec dtLa_10 2 rfl) (fm_dec dtLa_10 3 rfl) (fm_dec dtLa_10 4 rfl) ?_
  have hcw := hcu1
  have hsw := hsu1
  refine z_perm (ws := (fmL Tx (g, G.2) M1 ++ ((o, .inl (G.2.2.1 1, 1, .inr (.inl f1))) :: fmL Tm (g2, G.2) M2))) (wpermW _ _ _) ?_
  refine la_ref C (pc := 647) (As := [.int (xs (t + 1)), .int (xs (t + 2)), .int (xs (t + 3)), .int (xs (t + 4)), .int (xs (t + 5))]) (st := []) cvL_170 (by decide +kernel) rfl rfl (Nat.le_of_ble_eq_true rfl) (by decide) hcw hsw (fm_dec dtLa_10 5 rfl) rfl hQ (fun r2 M3 h3 => ?_)
  obtain ⟨⟨v2, rfl⟩, hI3⟩ := h3
  refine z_then1 ?_
  refine z_istore C.1 (pc := 650) (i := 6) (by decide) rfl (fm_dec dtLa_10 6 rfl) ?_
  dsimp only [List.set_cons_zero, List.set_cons_succ]
  refine z_goto C.1 (pc := 652) 1967 (by decide) (fm_dec dtLa_10 7 rfl) ?_
  exact z_perm (wpermB _ _ _) (la_fgt (kk M1 f1 M3 hI3))
set_option maxRecDepth 20000 in
theorem la_c12 {p : Program} {l : Launch} {e : Env} {s : State} {m : MethodId} {below : List Frame} {meth : Method} {c : Code} {G : fmG} {b n : Nat} {xs : Nat → Int32} {I : fmM → fmM → Prop} (hS : laS_loss I) (C : laC p l s m meth c G b n xs) {g g2 : Nat → Nat} {M M2 : fmM} {f : Nat → Int64} {o t : Nat} {i : Int32} {cu su : Nat} (hi : laI n i t) (hcu : cu + 1 ≤ 601024) (hsu : su + 6 ≤ 7293034) (hcu1 : cu + 1 + 1 ≤ 601024) (hsu1 : su + 6 + 6 ≤ 7293034) (hI : I M M2) (kk : ∀ (M' : fmM) (f' : Nat → Int64) (M2' : fmM), I M' M2' → zEv p l e room_1 s m #[.ref b] below meth c G (fun q => s.heap.size ≤ q) 8 (lw_Z below #[.ref b] s) 1967 [some (.ref b), some (.ref (g 0)), some (.ref (g2 0)), some (.ref o), some (.int i), none, none, none] [] (fmL Tx (g, G.2) M' ++ ((o, .inl (G.2.2.1 1, 1, .inr (.inl f'))) :: fmL Tm (g2, G.2) M2')) (cu + 1) (su + 6)) : zEv p l e room_1 s m #[.ref b] below meth c G (fun q => s.heap.size ≤ q) 8 (lw_Z below #[.ref b] s) 655 [some (.ref b), some (.ref (g 0)), some (.ref (g2 0)), some (.ref o), some (.int i), none, none, none] [] (fmL Tx (g, G.2) M ++ ((o, .inl (G.2.2.1 1, 1, .inr (.inl f))) :: fmL Tm (g2, G.2) M2)) cu su := by
  have h0 := hS M M2 (xs (t + 1)) hI
  refine z_aloadn C.1 (pc := 655) (n := 1) 1 rfl rfl (fm_dec dtLa_10 8 rfl) ?_
  refine la_arg C (pc := 656) (v := 1) (t + 1) rfl rfl (hi 1 (by decide)) (by decide) (fm_dec dtLa_10 9 rfl) (fm_dec dtLa_10 10 rfl) (fm_dec dtLa_10 11 rfl) (fm_dec dtLa_10 12 rfl) (fm_dec dtLa_10 13 rfl) ?_
  refine z_aloadn C.1 (pc := 662) (n := 3) 3 rfl rfl (fm_dec dtLa_10 14 rfl) ?_
  have hw : pvGood Tx 250 qX10_loss [.ref 0, .int (xs (t + 1))] M (wJ f (fun (r : Int32) (u : fmM × (Nat → Int64)) => pvGood Tm 250 qX11_loss [.ref 0, .int (xs (t + 1))] M2 (fun r2 M2' => tJ r2 ∧ I u.1 M2')) (fun E M' => (E = fmIAE ∧ (fun (r : Int32) (u : fmM × (Nat → Int64)) => pvGood Tm 250 qX11_loss [.ref 0, .int (xs (t + 1))] M2 (fun r2 M2' => tJ r2 ∧ I u.1 M2')) 1 (M', f)))) := h0.imp (fun r9 M9 h9 => by
    obtain ⟨h8, h2⟩ := h9
    rcases h8 with ⟨v, rfl⟩ | ⟨h6, rfl⟩ | ⟨h6, rfl⟩
    · exact h2
    · exact ⟨rfl, h2⟩
    · exact absurd h6 (by decide))
  refine z_callW C.1 (y' := qL_loss) (hh := [(0, 8, 11, 13)]) (W0 := WX G g o (fmL Tm (g2, G.2) M2) (M, f)) (WW := WX G g o (fmL Tm (g2, G.2) M2)) (Q := fun (r : Int32) (u : fmM × (Nat → Int64)) => pvGood Tm 250 qX11_loss [.ref 0, .int (xs (t + 1))] M2 (fun r2 M2' => tJ r2 ∧ I u.1 M2')) (As := [.ref (g 0), .int (xs (t + 1)), .ref o]) (st := []) (pc := 663) (fm_in 983 (by decide +kernel) rfl) nst_L_loss niL nw_L_loss nd_L_loss rfl rfl (by decide) (show 311 ≤ room_1.frames by decide) (show 8 + (4 + 11) + 18200 ≤ room_1.locals by decide) (rm_c hcu) (rm_s hsu) (fm_dec dtLa_10 15 rfl) (w_loss C.2.2.2.2.2 hw) (fun r u hQ => ?_)
  obtain ⟨M1, f1⟩ := u
  refine z_istore C.1 (pc := 666) (i := 5) (by decide) rfl (fm_dec dtLa_10 16 rfl) ?_
  dsimp only [List.set_cons_zero, List.set_cons_succ]
  refine z_aloadn C.1 (pc := 668) (n := 2) 2 rfl rfl (fm_dec dtLa_10 17 rfl) ?_
  refine la_arg C (pc := 669) (v := 1) (t + 1) rfl rfl (hi 1 (by decide)) (by decide) (fm_dec dtLa_10 18 rfl) (fm_dec dtLa_10 19 rfl) (fm_dec dtLa_10 20 rfl) (fm_dec dtLa_10 21 rfl) (fm_dec dtLa_10 22 rfl) ?_
  have hcw := hcu1
  have hsw := hsu1
  refine z_perm (ws := (fmL Tx (g, G.2) M1 ++ ((o, .inl (G.2.2.1 1, 1, .inr (.inl f1))) :: fmL Tm (g2, G.2) M2))) (wpermW _ _ _) ?_
  refine la_ref C (pc := 675) (As := [.int (xs (t + 1))]) (st := []) cvL_173 (by decide +kernel) rfl rfl (Nat.le_of_ble_eq_true rfl) (by decide) hcw hsw (fm_dec dtLa_10 23 rfl) rfl hQ (fun r2 M3 h3 => ?_)
  obtain ⟨⟨v2, rfl⟩, hI3⟩ := h3
  refine z_then1 ?_
  refine z_lstore C.1 (pc := 678) (i := 6) (by decide) rfl (fm_dec dtLa_10 24 rfl) ?_
  dsimp only [List.set_cons_zero, List.set_cons_succ]
  refine z_goto C.1 (pc := 680) 1967 (by decide) (fm_dec dtLa_10 25 rfl) ?_
  exact z_perm (wpermB _ _ _) (la_fgt (kk M1 f1 M3 hI3))
set_option maxRecDepth 20000 in
theorem la_c13 {p : Program} {l : Launch} {e : Env} {s : State} {m : MethodId} {below : List Frame} {meth : Method} {c : Code} {G : fmG} {b n : Nat} {xs : Nat → Int32} {I : fmM → fmM → Prop} (hS : laS_cost I) (C : laC p l s m meth c G b n xs) {g g2 : Nat → Nat} {M M2 : fmM} {f : Nat → Int64} {o t : Nat} {i : Int32} {cu su : Nat} (hi : laI n i t) (hcu : cu + 1 ≤ 601024) (hsu : su + 6 ≤ 7293034) (hcu1 : cu + 1 + 1 ≤ 601024) (hsu1 : su + 6 + 6 ≤ 7293034) (hI : I M M2) (kk : ∀ (M' : fmM) (f' : Nat → Int64) (M2' : fmM), I M' M2' → zEv p l e room_1 s m #[.ref b] below meth c G (fun q => s.heap.size ≤ q) 8 (lw_Z below #[.ref b] s) 1967 [some (.ref b), some (.ref (g 0)), some (.ref (g2 0)), some (.ref o), some (.int i), none, none, none] [] (fmL Tx (g, G.2) M' ++ ((o, .inl (G.2.2.1 1, 1, .inr (.inl f'))) :: fmL Tm (g2, G.2) M2')) (cu + 1) (su + 6)) : zEv p l e room_1 s m #[.ref b] below meth c G (fun q => s.heap.size ≤ q) 8 (lw_Z below #[.ref b] s) 683 [some (.ref b), some (.ref (g 0)), some (.ref (g2 0)), some (.ref o), some (.int i), none, none, none] [] (fmL Tx (g, G.2) M ++ ((o, .inl (G.2.2.1 1, 1, .inr (.inl f))) :: fmL Tm (g2, G.2) M2)) cu su := by
  have h0 := hS M M2 (xs (t + 1)) (xs (t + 2)) hI
  refine z_aloadn C.1 (pc := 683) (n := 1) 1 rfl rfl (fm_dec dtLa_10 26 rfl) ?_
  refine la_arg C (pc := 684) (v := 1) (t + 1) rfl rfl (hi 1 (by decide)) (by decide) (fm_dec dtLa_10 27 rfl) (fm_dec dtLa_10 28 rfl) (fm_dec dtLa_10 29 rfl) (fm_dec dtLa_11 0 rfl) (fm_dec dtLa_11 1 rfl) ?_
  refine la_arg C (pc := 690) (v := 2) (t + 2) rfl rfl (hi 2 (by decide)) (by decide) (fm_dec dtLa_11 2 rfl) (fm_dec dtLa_11 3 rfl) (fm_dec dtLa_11 4 rfl) (fm_dec dtLa_11 5 rfl) (fm_dec dtLa_11 6 rfl) ?_
  refine z_aloadn C.1 (pc := 696) (n := 3) 3 rfl rfl (fm_dec dtLa_11 7 rfl) ?_
  have hw : pvGood Tx 250 qX10_cost [.ref 0, .int (xs (t + 1)), .int (xs (t + 2))] M (wJ f (fun (r : Int32) (u : fmM × (Nat → Int64)) => pvGood Tm 250 qX11_cost [.ref 0, .int (xs (t + 1)), .int (xs (t + 2))] M2 (fun r2 M2' => tJ r2 ∧ I u.1 M2')) (fun E M' => (E = fmNSE ∧ (fun (r : Int32) (u : fmM × (Nat → Int64)) => pvGood Tm 250 qX11_cost [.ref 0, .int (xs (t + 1)), .int (xs (t + 2))] M2 (fun r2 M2' => tJ r2 ∧ I u.1 M2')) 1 (M', f)) ∨ (E = fmIAE ∧ (fun (r : Int32) (u : fmM × (Nat → Int64)) => pvGood Tm 250 qX11_cost [.ref 0, .int (xs (t + 1)), .int (xs (t + 2))] M2 (fun r2 M2' => tJ r2 ∧ I u.1 M2')) 2 (M', f)))) := h0.imp (fun r9 M9 h9 => by
    obtain ⟨h8, h2⟩ := h9
    rcases h8 with ⟨v, rfl⟩ | ⟨-, rfl⟩ | ⟨-, rfl⟩
    · exact h2
    · exact Or.inr ⟨rfl, h2⟩
    · exact Or.inl ⟨rfl, h2⟩)
  refine z_callW C.1 (y' := qL_cost) (hh := [(0, 9, 12, 31), (0, 9, 16, 13)]) (W0 := WX G g o (fmL Tm (g2, G.2) M2) (M, f)) (WW := WX G g o (fmL Tm (g2, G.2) M2)) (Q := fun (r : Int32) (u : fmM × (Nat → Int64)) => pvGood Tm 250 qX11_cost [.ref 0, .int (xs (t + 1)), .int (xs (t + 2))] M2 (fun r2 M2' => tJ r2 ∧ I u.1 M2')) (As := [.ref (g 0), .int (xs (t + 1)), .int (xs (t + 2)), .ref o]) (st := []) (pc := 697) (fm_in 998 (by decide +kernel) rfl) nst_L_cost niL nw_L_cost nd_L_cost rfl rfl (by decide) (show 311 ≤ room_1.frames by decide) (show 8 + (5 + 11) + 18200 ≤ room_1.locals by decide) (rm_c hcu) (rm_s hsu) (fm_dec dtLa_11 8 rfl) (w_cost C.2.2.2.2.2 hw) (fun r u hQ => ?_)
  obtain ⟨M1, f1⟩ := u
  refine z_istore C.1 (pc := 700) (i := 5) (by decide) rfl (fm_dec dtLa_11 9 rfl) ?_
  dsimp only [List.set_cons_zero, List.set_cons_succ]
  refine z_aloadn C.1 (pc := 702) (n := 2) 2 rfl rfl (fm_dec dtLa_11 10 rfl) ?_
  refine la_arg C (pc := 703) (v := 1) (t + 1) rfl rfl (hi 1 (by decide)) (by decide) (fm_dec dtLa_11 11 rfl) (fm_dec dtLa_11 12 rfl) (fm_dec dtLa_11 13 rfl) (fm_dec dtLa_11 14 rfl) (fm_dec dtLa_11 15 rfl) ?_
  refine la_arg C (pc := 709) (v := 2) (t + 2) rfl rfl (hi 2 (by decide)) (by decide) (fm_dec dtLa_11 16 rfl) (fm_dec dtLa_11 17 rfl) (fm_dec dtLa_11 18 rfl) (fm_dec dtLa_11 19 rfl) (fm_dec dtLa_11 20 rfl) ?_
  have hcw := hcu1
  have hsw := hsu1
  refine z_perm (ws := (fmL Tx (g, G.2) M1 ++ ((o, .inl (G.2.2.1 1, 1, .inr (.inl f1))) :: fmL Tm (g2, G.2) M2))) (wpermW _ _ _) ?_
  refine la_ref C (pc := 715) (As := [.int (xs (t + 1)), .int (xs (t + 2))]) (st := []) cvL_176 (by decide +kernel) rfl rfl (Nat.le_of_ble_eq_true rfl) (by decide) hcw hsw (fm_dec dtLa_11 21 rfl) rfl hQ (fun r2 M3 h3 => ?_)
  obtain ⟨⟨v2, rfl⟩, hI3⟩ := h3
  refine z_then1 ?_
  refine z_lstore C.1 (pc := 718) (i := 6) (by decide) rfl (fm_dec dtLa_11 22 rfl) ?_
  dsimp only [List.set_cons_zero, List.set_cons_succ]
  refine z_goto C.1 (pc := 720) 1967 (by decide) (fm_dec dtLa_11 23 rfl) ?_
  exact z_perm (wpermB _ _ _) (la_fgt (kk M1 f1 M3 hI3))
set_option maxRecDepth 20000 in
theorem la_c14 {p : Program} {l : Launch} {e : Env} {s : State} {m : MethodId} {below : List Frame} {meth : Method} {c : Code} {G : fmG} {b n : Nat} {xs : Nat → Int32} {I : fmM → fmM → Prop} (hS : laS_risk I) (C : laC p l s m meth c G b n xs) {g g2 : Nat → Nat} {M M2 : fmM} {f : Nat → Int64} {o t : Nat} {i : Int32} {cu su : Nat} (hi : laI n i t) (hcu : cu + 1 ≤ 601024) (hsu : su + 6 ≤ 7293034) (hcu1 : cu + 1 + 1 ≤ 601024) (hsu1 : su + 6 + 6 ≤ 7293034) (hI : I M M2) (kk : ∀ (M' : fmM) (f' : Nat → Int64) (M2' : fmM), I M' M2' → zEv p l e room_1 s m #[.ref b] below meth c G (fun q => s.heap.size ≤ q) 8 (lw_Z below #[.ref b] s) 1967 [some (.ref b), some (.ref (g 0)), some (.ref (g2 0)), some (.ref o), some (.int i), none, none, none] [] (fmL Tx (g, G.2) M' ++ ((o, .inl (G.2.2.1 1, 1, .inr (.inl f'))) :: fmL Tm (g2, G.2) M2')) (cu + 1) (su + 6)) : zEv p l e room_1 s m #[.ref b] below meth c G (fun q => s.heap.size ≤ q) 8 (lw_Z below #[.ref b] s) 723 [some (.ref b), some (.ref (g 0)), some (.ref (g2 0)), some (.ref o), some (.int i), none, none, none] [] (fmL Tx (g, G.2) M ++ ((o, .inl (G.2.2.1 1, 1, .inr (.inl f))) :: fmL Tm (g2, G.2) M2)) cu su := by
  have h0 := hS M M2 (xs (t + 1)) hI
  refine z_aloadn C.1 (pc := 723) (n := 1) 1 rfl rfl (fm_dec dtLa_11 24 rfl) ?_
  refine la_arg C (pc := 724) (v := 1) (t + 1) rfl rfl (hi 1 (by decide)) (by decide) (fm_dec dtLa_11 25 rfl) (fm_dec dtLa_11 26 rfl) (fm_dec dtLa_11 27 rfl) (fm_dec dtLa_11 28 rfl) (fm_dec dtLa_11 29 rfl) ?_
  refine z_aloadn C.1 (pc := 730) (n := 3) 3 rfl rfl (fm_dec dtLa_12 0 rfl) ?_
  have hw : pvGood Tx 250 qX10_risk [.ref 0, .int (xs (t + 1))] M (wJ f (fun (r : Int32) (u : fmM × (Nat → Int64)) => pvGood Tm 250 qX11_risk [.ref 0, .int (xs (t + 1))] M2 (fun r2 M2' => tJ r2 ∧ I u.1 M2')) (fun E M' => (E = fmIAE ∧ (fun (r : Int32) (u : fmM × (Nat → Int64)) => pvGood Tm 250 qX11_risk [.ref 0, .int (xs (t + 1))] M2 (fun r2 M2' => tJ r2 ∧ I u.1 M2')) 1 (M', f)))) := h0.imp (fun r9 M9 h9 => by
    obtain ⟨h8, h2⟩ := h9
    rcases h8 with ⟨v, rfl⟩ | ⟨h6, rfl⟩ | ⟨h6, rfl⟩
    · exact h2
    · exact ⟨rfl, h2⟩
    · exact absurd h6 (by decide))
  refine z_callW C.1 (y' := qL_risk) (hh := [(0, 8, 11, 13)]) (W0 := WX G g o (fmL Tm (g2, G.2) M2) (M, f)) (WW := WX G g o (fmL Tm (g2, G.2) M2)) (Q := fun (r : Int32) (u : fmM × (Nat → Int64)) => pvGood Tm 250 qX11_risk [.ref 0, .int (xs (t + 1))] M2 (fun r2 M2' => tJ r2 ∧ I u.1 M2')) (As := [.ref (g 0), .int (xs (t + 1)), .ref o]) (st := []) (pc := 731) (fm_in 1006 (by decide +kernel) rfl) nst_L_risk niL nw_L_risk nd_L_risk rfl rfl (by decide) (show 311 ≤ room_1.frames by decide) (show 8 + (4 + 11) + 18200 ≤ room_1.locals by decide) (rm_c hcu) (rm_s hsu) (fm_dec dtLa_12 1 rfl) (w_risk C.2.2.2.2.2 hw) (fun r u hQ => ?_)
  obtain ⟨M1, f1⟩ := u
  refine z_istore C.1 (pc := 734) (i := 5) (by decide) rfl (fm_dec dtLa_12 2 rfl) ?_
  dsimp only [List.set_cons_zero, List.set_cons_succ]
  refine z_aloadn C.1 (pc := 736) (n := 2) 2 rfl rfl (fm_dec dtLa_12 3 rfl) ?_
  refine la_arg C (pc := 737) (v := 1) (t + 1) rfl rfl (hi 1 (by decide)) (by decide) (fm_dec dtLa_12 4 rfl) (fm_dec dtLa_12 5 rfl) (fm_dec dtLa_12 6 rfl) (fm_dec dtLa_12 7 rfl) (fm_dec dtLa_12 8 rfl) ?_
  have hcw := hcu1
  have hsw := hsu1
  refine z_perm (ws := (fmL Tx (g, G.2) M1 ++ ((o, .inl (G.2.2.1 1, 1, .inr (.inl f1))) :: fmL Tm (g2, G.2) M2))) (wpermW _ _ _) ?_
  refine la_ref C (pc := 743) (As := [.int (xs (t + 1))]) (st := []) cvL_179 (by decide +kernel) rfl rfl (Nat.le_of_ble_eq_true rfl) (by decide) hcw hsw (fm_dec dtLa_12 9 rfl) rfl hQ (fun r2 M3 h3 => ?_)
  obtain ⟨⟨v2, rfl⟩, hI3⟩ := h3
  refine z_then1 ?_
  refine z_lstore C.1 (pc := 746) (i := 6) (by decide) rfl (fm_dec dtLa_12 10 rfl) ?_
  dsimp only [List.set_cons_zero, List.set_cons_succ]
  refine z_goto C.1 (pc := 748) 1967 (by decide) (fm_dec dtLa_12 11 rfl) ?_
  exact z_perm (wpermB _ _ _) (la_fgt (kk M1 f1 M3 hI3))
set_option maxRecDepth 20000 in
theorem la_c15 {p : Program} {l : Launch} {e : Env} {s : State} {m : MethodId} {below : List Frame} {meth : Method} {c : Code} {G : fmG} {b n : Nat} {xs : Nat → Int32} {I : fmM → fmM → Prop} (hS : laS_saves I) (C : laC p l s m meth c G b n xs) {g g2 : Nat → Nat} {M M2 : fmM} {f : Nat → Int64} {o t : Nat} {i : Int32} {cu su : Nat} (hi : laI n i t) (hcu : cu + 1 ≤ 601024) (hsu : su + 6 ≤ 7293034) (hcu1 : cu + 1 + 1 ≤ 601024) (hsu1 : su + 6 + 6 ≤ 7293034) (hI : I M M2) (kk : ∀ (M' : fmM) (f' : Nat → Int64) (M2' : fmM), I M' M2' → zEv p l e room_1 s m #[.ref b] below meth c G (fun q => s.heap.size ≤ q) 8 (lw_Z below #[.ref b] s) 1967 [some (.ref b), some (.ref (g 0)), some (.ref (g2 0)), some (.ref o), some (.int i), none, none, none] [] (fmL Tx (g, G.2) M' ++ ((o, .inl (G.2.2.1 1, 1, .inr (.inl f'))) :: fmL Tm (g2, G.2) M2')) (cu + 1) (su + 6)) : zEv p l e room_1 s m #[.ref b] below meth c G (fun q => s.heap.size ≤ q) 8 (lw_Z below #[.ref b] s) 751 [some (.ref b), some (.ref (g 0)), some (.ref (g2 0)), some (.ref o), some (.int i), none, none, none] [] (fmL Tx (g, G.2) M ++ ((o, .inl (G.2.2.1 1, 1, .inr (.inl f))) :: fmL Tm (g2, G.2) M2)) cu su := by
  have h0 := hS M M2 (xs (t + 1)) (xs (t + 2)) hI
  refine z_aloadn C.1 (pc := 751) (n := 1) 1 rfl rfl (fm_dec dtLa_12 12 rfl) ?_
  refine la_arg C (pc := 752) (v := 1) (t + 1) rfl rfl (hi 1 (by decide)) (by decide) (fm_dec dtLa_12 13 rfl) (fm_dec dtLa_12 14 rfl) (fm_dec dtLa_12 15 rfl) (fm_dec dtLa_12 16 rfl) (fm_dec dtLa_12 17 rfl) ?_
  refine la_arg C (pc := 758) (v := 2) (t + 2) rfl rfl (hi 2 (by decide)) (by decide) (fm_dec dtLa_12 18 rfl) (fm_dec dtLa_12 19 rfl) (fm_dec dtLa_12 20 rfl) (fm_dec dtLa_12 21 rfl) (fm_dec dtLa_12 22 rfl) ?_
  refine z_aloadn C.1 (pc := 764) (n := 3) 3 rfl rfl (fm_dec dtLa_12 23 rfl) ?_
  have hw : pvGood Tx 250 qX10_saves [.ref 0, .int (xs (t + 1)), .int (xs (t + 2))] M (wJ f (fun (r : Int32) (u : fmM × (Nat → Int64)) => pvGood Tm 250 qX11_saves [.ref 0, .int (xs (t + 1)), .int (xs (t + 2))] M2 (fun r2 M2' => tJ r2 ∧ I u.1 M2')) (fun E M' => (E = fmNSE ∧ (fun (r : Int32) (u : fmM × (Nat → Int64)) => pvGood Tm 250 qX11_saves [.ref 0, .int (xs (t + 1)), .int (xs (t + 2))] M2 (fun r2 M2' => tJ r2 ∧ I u.1 M2')) 1 (M', f)) ∨ (E = fmIAE ∧ (fun (r : Int32) (u : fmM × (Nat → Int64)) => pvGood Tm 250 qX11_saves [.ref 0, .int (xs (t + 1)), .int (xs (t + 2))] M2 (fun r2 M2' => tJ r2 ∧ I u.1 M2')) 2 (M', f)))) := h0.imp (fun r9 M9 h9 => by
    obtain ⟨h8, h2⟩ := h9
    rcases h8 with ⟨v, rfl⟩ | ⟨-, rfl⟩ | ⟨-, rfl⟩
    · exact h2
    · exact Or.inr ⟨rfl, h2⟩
    · exact Or.inl ⟨rfl, h2⟩)
  refine z_callW C.1 (y' := qL_saves) (hh := [(0, 9, 12, 31), (0, 9, 16, 13)]) (W0 := WX G g o (fmL Tm (g2, G.2) M2) (M, f)) (WW := WX G g o (fmL Tm (g2, G.2) M2)) (Q := fun (r : Int32) (u : fmM × (Nat → Int64)) => pvGood Tm 250 qX11_saves [.ref 0, .int (xs (t + 1)), .int (xs (t + 2))] M2 (fun r2 M2' => tJ r2 ∧ I u.1 M2')) (As := [.ref (g 0), .int (xs (t + 1)), .int (xs (t + 2)), .ref o]) (st := []) (pc := 765) (fm_in 1014 (by decide +kernel) rfl) nst_L_saves niL nw_L_saves nd_L_saves rfl rfl (by decide) (show 311 ≤ room_1.frames by decide) (show 8 + (5 + 11) + 18200 ≤ room_1.locals by decide) (rm_c hcu) (rm_s hsu) (fm_dec dtLa_12 24 rfl) (w_saves C.2.2.2.2.2 hw) (fun r u hQ => ?_)
  obtain ⟨M1, f1⟩ := u
  refine z_istore C.1 (pc := 768) (i := 5) (by decide) rfl (fm_dec dtLa_12 25 rfl) ?_
  dsimp only [List.set_cons_zero, List.set_cons_succ]
  refine z_aloadn C.1 (pc := 770) (n := 2) 2 rfl rfl (fm_dec dtLa_12 26 rfl) ?_
  refine la_arg C (pc := 771) (v := 1) (t + 1) rfl rfl (hi 1 (by decide)) (by decide) (fm_dec dtLa_12 27 rfl) (fm_dec dtLa_12 28 rfl) (fm_dec dtLa_12 29 rfl) (fm_dec dtLa_13 0 rfl) (fm_dec dtLa_13 1 rfl) ?_
  refine la_arg C (pc := 777) (v := 2) (t + 2) rfl rfl (hi 2 (by decide)) (by decide) (fm_dec dtLa_13 2 rfl) (fm_dec dtLa_13 3 rfl) (fm_dec dtLa_13 4 rfl) (fm_dec dtLa_13 5 rfl) (fm_dec dtLa_13 6 rfl) ?_
  have hcw := hcu1
  have hsw := hsu1
  refine z_perm (ws := (fmL Tx (g, G.2) M1 ++ ((o, .inl (G.2.2.1 1, 1, .inr (.inl f1))) :: fmL Tm (g2, G.2) M2))) (wpermW _ _ _) ?_
  refine la_ref C (pc := 783) (As := [.int (xs (t + 1)), .int (xs (t + 2))]) (st := []) cvL_182 (by decide +kernel) rfl rfl (Nat.le_of_ble_eq_true rfl) (by decide) hcw hsw (fm_dec dtLa_13 7 rfl) rfl hQ (fun r2 M3 h3 => ?_)
  obtain ⟨⟨v2, rfl⟩, hI3⟩ := h3
  refine z_then1 ?_
  refine z_lstore C.1 (pc := 786) (i := 6) (by decide) rfl (fm_dec dtLa_13 8 rfl) ?_
  dsimp only [List.set_cons_zero, List.set_cons_succ]
  refine z_goto C.1 (pc := 788) 1967 (by decide) (fm_dec dtLa_13 9 rfl) ?_
  exact z_perm (wpermB _ _ _) (la_fgt (kk M1 f1 M3 hI3))
