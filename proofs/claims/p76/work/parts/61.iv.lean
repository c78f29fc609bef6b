theorem IV_field {σ : St} {number : Int} (v : INV σ) (c1 : (inb number 8)) : INV (fldSt σ (prn number.toNat)) := by
  have hp := PRb v.p
  exact v.fld (prn_ok (show number.toNat < 8 by omega)).2
theorem IV_put {σ : St} {row place value : Int} (v : INV σ) (c1 : (inb row 8 ∧ inb place 8)) (c2 : (inb value σ.p)) : INV (σ.sRow row.toNat ((σ.rw row.toNat).set place.toNat value)) := by
  have hp := PRb v.p
  exact v.sRow ((v.rw _ (show row.toNat < 8 by omega)).set (by omega))
theorem IV_fill {σ : St} {row b1 b2 b3 b4 b5 b6 b7 b8 : Int} (v : INV σ) (c1 : (inb row 8)) : INV (σ.sRow row.toNat (row8 (σ.p : Int) b1 b2 b3 b4 b5 b6 b7 b8)) := by
  have hp := PRb v.p
  exact v.sRow (row8_F (by omega))
theorem IV_mix {σ : St} {row other factor to : Int} (v : INV σ) (c1 : (inb row 8 ∧ inb other 8 ∧ inb to 8)) (c2 : (inb factor σ.p)) : INV (σ.sRow to.toNat (tab (fun t => ((σ.rw row.toNat).getD t 0 + factor * (σ.rw other.toNat).getD t 0) % (σ.p : Int)) 8)) := by
  have hp := PRb v.p
  exact v.sRow (Fl_tab (by omega) (fun t _ => modb (by omega)))
theorem IV_times {σ : St} {row other to : Int} (v : INV σ) (c1 : (inb row 8 ∧ inb other 8 ∧ inb to 8)) (c2 : (¬ (8 ≤ dg (gf (σ.rw row.toNat)) 8 + dg (gf (σ.rw other.toNat)) 8 ∧ 0 ≤ dg (gf (σ.rw row.toNat)) 8 ∧ 0 ≤ dg (gf (σ.rw other.toNat)) 8))) : INV (σ.sRow to.toNat (tab (fun n => pm (gf (σ.rw row.toNat)) (gf (σ.rw other.toNat)) 8 n % (σ.p : Int)) 8)) := by
  have hp := PRb v.p
  exact v.sRow (Fl_tab (by omega) (fun t _ => modb (by omega)))
theorem IV_divide {σ : St} {row by_ quotient rest : Int} (v : INV σ) (c1 : (inb row 8 ∧ inb by_ 8 ∧ inb quotient 8 ∧ inb rest 8)) (c2 : (quotient ≠ rest)) (c3 : (¬ (dg (gf (σ.rw by_.toNat)) 8) = -1)) : INV ((σ.sRow quotient.toNat (dvQL σ.p (σ.rw row.toNat) (σ.rw by_.toNat))).sRow rest.toNat (dvRL σ.p (σ.rw row.toNat) (σ.rw by_.toNat))) := by
  have hp := PRb v.p
  exact (v.sRow (dvQL_F hp.1)).sRow (dvRL_F hp.1 (v.rw _ (show row.toNat < 8 by omega)))
theorem IV_through {σ : St} {points values many to : Int} (v : INV σ) (c1 : (inb points 8 ∧ inb values 8 ∧ inb to 8)) (c2 : ((1 ≤ many ∧ many ≤ 8) ∧ (∀ i j : Nat, j < i → (i : Int) < many → ¬ (σ.rw points.toNat).getD i 0 = (σ.rw points.toNat).getD j 0))) : INV (σ.sRow to.toNat (tab (lit σ.p (gf (σ.rw points.toNat)) (gf (σ.rw values.toNat)) many.toNat many.toNat) 8)) := by
  have hp := PRb v.p
  exact v.sRow (litL_F hp.1)
theorem IV_powers {σ : St} {x to : Int} (v : INV σ) (c1 : (inb to 8)) (c2 : (inb x σ.p)) : INV (σ.sRow to.toNat (tab (pws (σ.p : Int) x) 8)) := by
  have hp := PRb v.p
  exact v.sRow (Fl_tab (by omega) (fun t _ => pws_b (by omega) t))
theorem IV_breaks {σ : St} {row blind place to : Int} (v : INV σ) (c1 : (inb row 8 ∧ inb place 8 ∧ inb to 8)) (c2 : (inb blind σ.p)) : INV (σ.sRow to.toNat ((σ.rw row.toNat).set place.toNat (((σ.rw row.toNat).getD place.toNat 0 + 1) % (σ.p : Int)))) := by
  have hp := PRb v.p
  exact v.sRow ((v.rw _ (show row.toNat < 8 by omega)).set (modb (by omega)))
theorem IV_state {σ : St} {run y form x : Int} (v : INV σ) (c1 : (inb run 4 ∧ inb form 8)) (c2 : (¬ exI σ.p y = -1 ∧ inb x σ.p)) : INV (σ.sRun run.toNat (rBegin (σ.R run.toNat) (exI σ.p y) x (σ.rw form.toNat))) := by
  have hp := PRb v.p
  exact v.sRun (rBegin_ok hp.2 (v.R _ (show run.toNat < 4 by omega)) ⟨(exI_some c2.1).1, (exI_some c2.1).2.1⟩ c2.2 (v.rw _ (show form.toNat < 8 by omega)))
theorem IV_open {σ : St} {run mask blind : Int} (v : INV σ) (c1 : (inb run 4 ∧ inb mask 8)) (c2 : (inb blind σ.p)) (c3 : ((σ.R run.toNat).st = 1)) : INV (σ.sRun run.toNat (rOpen σ.p (σ.R run.toNat) (σ.rw mask.toNat) blind)) := by
  have hp := PRb v.p
  exact v.sRun (rOpen_ok hp (v.R _ (show run.toNat < 4 by omega)) c3 c2 (v.rw _ (show mask.toNat < 8 by omega)))
theorem IV_say {σ : St} {run a x : Int} (v : INV σ) (c1 : (inb run 4)) (c2 : (¬ exI σ.p a = -1 ∧ inb x σ.p)) (c3 : ((σ.R run.toNat).st = 1)) : INV (σ.sRun run.toNat (rSay (σ.R run.toNat) (exI σ.p a) x)) := by
  have hp := PRb v.p
  exact v.sRun (rSay_ok (v.R _ (show run.toNat < 4 by omega)) c3 ⟨(exI_some c2.1).1, (exI_some c2.1).2.1⟩ c2.2)
theorem IV_dare {σ : St} {run c : Int} (v : INV σ) (c1 : (inb run 4)) (c2 : (inb c σ.p)) (c3 : ((σ.R run.toNat).st = 2)) : INV (σ.sRun run.toNat (rDare (σ.R run.toNat) c)) := by
  have hp := PRb v.p
  exact v.sRun (rDare_ok (v.R _ (show run.toNat < 4 by omega)) c3 c2)
theorem IV_ask {σ : St} {run : Int} (v : INV σ) (c1 : (inb run 4)) (c2 : ((σ.R run.toNat).st = 2)) : INV (σ.sRun run.toNat (rDare (σ.R run.toNat) (trs σ.p (σ.R run.toNat) % (σ.p : Int)))) := by
  have hp := PRb v.p
  exact v.sRun (rDare_ok (v.R _ (show run.toNat < 4 by omega)) c2 (modb (by omega)))
theorem IV_reply {σ : St} {run secret blind : Int} (v : INV σ) (c1 : (inb run 4 ∧ inb secret 8)) (c2 : (inb blind σ.p)) (c3 : ((σ.R run.toNat).mk = true ∧ (σ.R run.toNat).st = 3)) : INV (σ.sRun run.toNat (rReply σ.p (σ.R run.toNat) (σ.rw secret.toNat) blind (decide (suit σ.p (σ.R run.toNat) (σ.rw secret.toNat) blind)))) := by
  have hp := PRb v.p
  exact v.sRun (rReply_ok hp (v.R _ (show run.toNat < 4 by omega)) c3.2 c3.1 (fun z => of_decide_eq_true z))
theorem IV_tell {σ : St} {run answer t : Int} (v : INV σ) (c1 : (inb run 4 ∧ inb answer 8)) (c2 : (inb t σ.p)) (c3 : ((σ.R run.toNat).st = 3)) : INV (σ.sRun run.toNat (rTell (σ.R run.toNat) (σ.rw answer.toNat) t)) := by
  have hp := PRb v.p
  exact v.sRun (rTell_ok hp.2 (v.R _ (show run.toNat < 4 by omega)) c3 c2 (v.rw _ (show answer.toNat < 8 by omega)))
theorem IV_simulate {σ : St} {run c answer t : Int} (v : INV σ) (c1 : (inb run 4 ∧ inb answer 8)) (c2 : (inb c σ.p ∧ inb t σ.p)) (c3 : ((σ.R run.toNat).st = 1)) : INV (σ.sRun run.toNat (rSim σ.p (σ.R run.toNat) c (σ.rw answer.toNat) t)) := by
  have hp := PRb v.p
  exact v.sRun (rSim_ok hp (v.R _ (show run.toNat < 4 by omega)) c3 c2.1 c2.2 (v.rw _ (show answer.toNat < 8 by omega)))
theorem IV_extract {σ : St} {run second to : Int} (v : INV σ) (c1 : (inb run 4 ∧ inb second 4 ∧ inb to 8)) (c2 : (fork σ.p (σ.R run.toNat) (σ.R second.toNat))) : INV (σ.sRow to.toNat (tab (fun t => (((σ.R run.toNat).answer.getD t 0 - (σ.R second.toNat).answer.getD t 0) * (iv σ.p (((σ.R run.toNat).c - (σ.R second.toNat).c) % (σ.p : Int)).toNat : Int)) % (σ.p : Int)) 8)) := by
  have hp := PRb v.p
  exact v.sRow (Fl_tab (by omega) (fun t _ => modb (by omega)))
theorem IV_maskFor {σ : St} {run secret blind to : Int} (v : INV σ) (c1 : (inb run 4 ∧ inb secret 8 ∧ inb to 8)) (c2 : (inb blind σ.p)) (c3 : (acc σ.p (σ.R run.toNat) ∧ suit σ.p (σ.R run.toNat) (σ.rw secret.toNat) blind)) : INV (σ.sRow to.toNat (tab (fun t => ((σ.R run.toNat).answer.getD t 0 + -(σ.R run.toNat).c * (σ.rw secret.toNat).getD t 0) % (σ.p : Int)) 8)) := by
  have hp := PRb v.p
  exact v.sRow (Fl_tab (by omega) (fun t _ => modb (by omega)))
theorem IV_fold {σ : St} {run second factor into : Int} (v : INV σ) (c1 : (inb run 4 ∧ inb second 4 ∧ inb into 4)) (c2 : (inb factor σ.p)) (c3 : (joinable (σ.R run.toNat) (σ.R second.toNat) 0)) : INV (σ.sRun into.toNat (rBegin (σ.R into.toNat) (((σ.R run.toNat).e + factor * (σ.R second.toNat).e) % (σ.p : Int)) (((σ.R run.toNat).v + factor * (σ.R second.toNat).v) % (σ.p : Int)) (σ.R run.toNat).form)) := by
  have hp := PRb v.p
  exact v.sRun (rBegin_ok hp.2 (v.R _ (show into.toNat < 4 by omega)) (modb (by omega)) (modb (by omega)) ((v.R _ (show run.toNat < 4 by omega)).1.f (by have := c3.1; omega)))
theorem IV_batch {σ : St} {run second factor into : Int} (v : INV σ) (c1 : (inb run 4 ∧ inb second 4 ∧ inb into 4)) (c2 : (inb factor σ.p)) (c3 : (joinable (σ.R run.toNat) (σ.R second.toNat) 1)) : INV (σ.sRun into.toNat (rBegin (σ.R into.toNat) (σ.R run.toNat).e (((σ.R run.toNat).v + factor * (σ.R second.toNat).v) % (σ.p : Int)) (tab (fun t => ((σ.R run.toNat).form.getD t 0 + factor * (σ.R second.toNat).form.getD t 0) % (σ.p : Int)) 8))) := by
  have hp := PRb v.p
  exact v.sRun (rBegin_ok hp.2 (v.R _ (show into.toNat < 4 by omega)) ((v.R _ (show run.toNat < 4 by omega)).1.e (by have := c3.1; omega)) (modb (by omega)) (Fl_tab (by omega) (fun t _ => modb (by omega))))
theorem IV_chooseBit {σ : St} {pair bit blind : Int} (v : INV σ) (c1 : (inb pair 2)) (c2 : (inb bit 2 ∧ inb blind σ.p)) : INV (σ.sPair pair.toNat (pBegin σ.p (σ.P pair.toNat) bit blind)) := by
  have hp := PRb v.p
  exact v.sPair (pBegin_ok v.p (v.P _ (show pair.toNat < 2 by omega)) (by omega) c2.2)
theorem IV_hideBit {σ : St} {pair mask c t : Int} (v : INV σ) (c1 : (inb pair 2)) (c2 : (inb mask σ.p ∧ inb c σ.p ∧ inb t σ.p)) (c3 : ((σ.P pair.toNat).st = 1)) : INV (σ.sPair pair.toNat (pHide σ.p (σ.P pair.toNat) mask c t)) := by
  have hp := PRb v.p
  exact v.sPair (pHide_ok hp (v.P _ (show pair.toNat < 2 by omega)) c3 c2.1 c2.2.1 c2.2.2)
theorem IV_dareBit {σ : St} {pair c : Int} (v : INV σ) (c1 : (inb pair 2)) (c2 : (inb c σ.p)) (c3 : ((σ.P pair.toNat).st = 2)) : INV (σ.sPair pair.toNat (pDare σ.p (σ.P pair.toNat) c)) := by
  have hp := PRb v.p
  exact v.sPair (pDare_ok hp (v.P _ (show pair.toNat < 2 by omega)) c3 c2)
theorem IV_gate {σ : St} {kind a b c : Int} (v : INV σ) (c1 : (inb a 8 ∧ (kind = 0 ∨ kind = 1 → inb b 8 ∧ inb c 8) ∧ (kind = 4 → inb b 8))) (c2 : (inb kind 5 ∧ (kind = 2 → inb b σ.p))) (c3 : (σ.G.n < 8)) : INV (σ.sG (σ.G.n + 1, σ.G.k.set σ.G.n kind, σ.G.a.set σ.G.n a, σ.G.b.set σ.G.n b, σ.G.c.set σ.G.n c)) := by
  have hp := PRb v.p
  exact v.gate c1 c2 c3
theorem IV_faults {σ : St} {row to : Int} (v : INV σ) (c1 : (inb row 8 ∧ inb to 8)) : INV (σ.sRow to.toNat (tab (flt σ (σ.rw row.toNat)) 8)) := by
  have hp := PRb v.p
  exact v.sRow (Fl_tab (by omega) (fun t _ => by unfold flt; split; exact gfault_b (by omega); omega))
theorem IV_play {σ : St} {row claim : Int} {i9 : Int} (v : INV σ) (c1 : (inb row 8)) (c2 : (inb claim σ.p)) (q9 : (i9 = 1 ∧ claim = cr σ.p (σ.rw row.toNat) 0 ∨ i9 = 0)) : INV (σ.sg (1, 0, i9, claim, 0, σ.g.z, σ.g.o, σ.rw row.toNat, σ.rw row.toNat, σ.g.dr)) := by
  have hp := PRb v.p
  exact v.play (by omega) c2 q9
theorem IV_send {σ : St} {zero one : Int} {i9 : Int} (v : INV σ) (c1 : (inb zero σ.p ∧ inb one σ.p)) (c2 : (σ.g.b = 1 ∧ σ.g.s = 0 ∧ σ.g.r < 3)) (c3 : ((zero + one) % (σ.p : Int) = σ.g.c)) (q9 : (i9 = 1 ∧ σ.g.i = 1 ∧ zero = rz σ.p σ.g.l σ.g.r ∧ one = ro σ.p σ.g.l σ.g.r ∨ i9 = 0)) : INV (σ.sg (σ.g.b, 1, i9, σ.g.c, σ.g.r, zero, one, σ.g.l, σ.g.tbl, σ.g.dr)) := by
  have hp := PRb v.p
  exact v.send c2 c1.1 c1.2 q9
theorem IV_draw {σ : St} {c : Int} (v : INV σ) (c1 : (inb c σ.p)) (c2 : (σ.g.b = 1 ∧ σ.g.s = 1)) : INV (σ.sg (σ.g.b, 0, σ.g.i, ln σ.p σ.g.z σ.g.o c, σ.g.r + 1, σ.g.z, σ.g.o, bnd σ.p σ.g.l σ.g.r c, σ.g.tbl, σ.g.dr.set σ.g.r c)) := by
  have hp := PRb v.p
  exact v.draw c2 c1
theorem IV_mint {σ : St} {amount blind : Int} (v : INV σ) (c1 : (inb amount σ.p ∧ inb blind σ.p)) (c2 : (σ.L.n + 1 ≤ 16)) : INV (σ.sL (σ.L.n + 1, (σ.L.mi + (cm1 σ.p amount blind)) % (σ.p : Int), σ.L.pa, σ.L.nn.set σ.L.n (cm1 σ.p amount blind), σ.L.gl.set σ.L.n (MM σ.p (cm1 σ.p amount blind)))) := by
  have hp := PRb v.p
  exact v.mint c2 (show 0 ≤ cm1 σ.p amount blind ∧ cm1 σ.p amount blind < (σ.p : Int) from modb (by omega))
theorem IV_split {σ : St} {note amount blind : Int} (v : INV σ) (c1 : (inb note σ.L.n)) (c2 : (inb amount σ.p ∧ inb blind σ.p)) (c3 : (¬ (σ.L.nn.getD note.toNat 0) = -1 ∧ σ.L.n + 2 ≤ 16)) : INV (σ.sL (σ.L.n + 2, σ.L.mi, σ.L.pa, ((σ.L.nn.set note.toNat (-1)).set σ.L.n (cm1 σ.p amount blind)).set (σ.L.n + 1) (((σ.L.nn.getD note.toNat 0) - (cm1 σ.p amount blind)) % (σ.p : Int)), ((σ.L.gl.set note.toNat 0).set σ.L.n (MM σ.p (cm1 σ.p amount blind))).set (σ.L.n + 1) (MM σ.p (((σ.L.nn.getD note.toNat 0) - (cm1 σ.p amount blind)) % (σ.p : Int))))) := by
  have hp := PRb v.p
  exact v.split (k := note.toNat) (by omega) c3.1 c3.2 (show 0 ≤ cm1 σ.p amount blind ∧ cm1 σ.p amount blind < (σ.p : Int) from modb (by omega))
theorem IV_merge {σ : St} {note second : Int} (v : INV σ) (c1 : (inb note σ.L.n ∧ inb second σ.L.n)) (c2 : (¬ note = second)) (c3 : (¬ (σ.L.nn.getD note.toNat 0) = -1 ∧ ¬ (σ.L.nn.getD second.toNat 0) = -1 ∧ σ.L.n + 1 ≤ 16)) : INV (σ.sL (σ.L.n + 1, σ.L.mi, σ.L.pa, ((σ.L.nn.set note.toNat (-1)).set second.toNat (-1)).set σ.L.n (((σ.L.nn.getD note.toNat 0) + (σ.L.nn.getD second.toNat 0)) % (σ.p : Int)), ((σ.L.gl.set note.toNat 0).set second.toNat 0).set σ.L.n (MM σ.p (((σ.L.nn.getD note.toNat 0) + (σ.L.nn.getD second.toNat 0)) % (σ.p : Int))))) := by
  have hp := PRb v.p
  exact v.merge (by omega) (by omega) (by omega) c3.1 c3.2.1 c3.2.2
theorem IV_pay {σ : St} {note run : Int} (v : INV σ) (c1 : (inb note σ.L.n ∧ inb run 4)) (c2 : (¬ (σ.L.nn.getD note.toNat 0) = -1 ∧ opn σ.p (σ.R run.toNat) (σ.L.nn.getD note.toNat 0))) : INV (σ.sL (σ.L.n, σ.L.mi, (σ.L.pa + (σ.L.nn.getD note.toNat 0)) % (σ.p : Int), σ.L.nn.set note.toNat (-1), σ.L.gl.set note.toNat 0)) := by
  have hp := PRb v.p
  exact v.pay (by omega) c2.1
