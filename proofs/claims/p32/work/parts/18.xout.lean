/-! ===== what a call does: all its ways ===== -/
def x_out_addPurpose (σ : ST) (a1 : Int32) (a2 : Bool) (code : Nat) (val : Int32) (σ' : ST) : Prop :=
  (∃ (v : Int32) (hv : v < 0 ∨ ¬ v ≤ 3650) (g : Bool), v = a1 ∧ g = a2 ∧ 1 = code ∧ σ = σ')
  ∨ (∃ (v : Int32) (g : Bool) (hv0 : ¬ v < 0) (hv1 : v ≤ 3650) (hfull : σ.1 1 = 8), v = a1 ∧ g = a2 ∧ 2 = code ∧ σ = σ')
  ∨ (∃ (v : Int32) (g : Bool) (hv0 : ¬ v < 0) (hv1 : v ≤ 3650) (np : Nat) (hnp : σ.1 1 = nI np) (hlt8 : np < 8), v = a1 ∧ g = a2 ∧ 0 = code ∧ x_addP σ np v g = σ' ∧ (nI np) = val)
def x_out_setRetention (σ : ST) (a1 : Int32) (a2 : Int32) (code : Nat) (val : Int32) (σ' : ST) : Prop :=
  (∃ (v : Int32) (hv : v < 0 ∨ σ.1 1 ≤ v) (w : Int32), v = a1 ∧ w = a2 ∧ 1 = code ∧ σ = σ')
  ∨ (∃ (q : Nat) (np : Nat) (hnp : σ.1 1 = nI np) (hn8 : np ≤ 8) (hq : q < np) (v : Int32) (hv : v < 0 ∨ ¬ v ≤ 3650), nI q = a1 ∧ v = a2 ∧ 2 = code ∧ σ = σ')
  ∨ (∃ (q : Nat) (v : Int32) (np : Nat) (hnp : σ.1 1 = nI np) (hn8 : np ≤ 8) (hq : q < np) (hv0 : ¬ v < 0) (hv1 : v ≤ 3650), nI q = a1 ∧ v = a2 ∧ 0 = code ∧ s_put σ 2 q v = σ' ∧ (σ.2 2 q) = val)
def x_out_consent (σ : ST) (a1 : Int32) (a2 : Int32) (a3 : Bool) (code : Nat) (val : Bool) (σ' : ST) : Prop :=
  (∃ (v : Int32) (hv : v < 0 ∨ 12 ≤ v) (w : Int32) (g : Bool), v = a1 ∧ w = a2 ∧ g = a3 ∧ 1 = code ∧ σ = σ')
  ∨ (∃ (j : Nat) (hj12 : j < 12) (v : Int32) (hv : v < 0 ∨ σ.1 1 ≤ v) (g : Bool), nI j = a1 ∧ v = a2 ∧ g = a3 ∧ 1 = code ∧ σ = σ')
  ∨ (∃ (j : Nat) (hj12 : j < 12) (q : Nat) (g : Bool) (np : Nat) (hnp : σ.1 1 = nI np) (hn8 : np ≤ 8) (hq : q < np), nI j = a1 ∧ nI q = a2 ∧ g = a3 ∧ 0 = code ∧ x_consS σ j q g = σ' ∧ (!(bt (σ.2 4 j) q == g)) = val)
def x_out_consents (σ : ST) (a1 : Int32) (code : Nat) (val : Int32) (σ' : ST) : Prop :=
  (∃ (v : Int32) (hv : v < 0 ∨ 12 ≤ v), v = a1 ∧ 1 = code ∧ σ = σ')
  ∨ (∃ (j : Nat) (hj12 : j < 12), nI j = a1 ∧ 0 = code ∧ σ = σ' ∧ (σ.2 4 j) = val)
def x_out_daysWithConsent (σ : ST) (a1 : Int32) (a2 : Int32) (code : Nat) (val : Int32) (σ' : ST) : Prop :=
  (∃ (v : Int32) (hv : v < 0 ∨ 12 ≤ v) (w : Int32), v = a1 ∧ w = a2 ∧ 1 = code ∧ σ = σ')
  ∨ (∃ (j : Nat) (hj12 : j < 12) (v : Int32) (hv : v < 0 ∨ σ.1 1 ≤ v), nI j = a1 ∧ v = a2 ∧ 1 = code ∧ σ = σ')
  ∨ (∃ (j : Nat) (hj12 : j < 12) (q : Nat) (np : Nat) (hnp : σ.1 1 = nI np) (hn8 : np ≤ 8) (hq : q < np), nI j = a1 ∧ nI q = a2 ∧ 0 = code ∧ σ = σ' ∧ (σ.2 5 (j * 8 + q)) = val)
def x_out_add (σ : ST) (a1 : Int32) (a2 : Int32) (code : Nat) (val : Int32) (σ' : ST) : Prop :=
  (∃ (v : Int32) (hv : v < 0 ∨ 12 ≤ v) (P : Int32), v = a1 ∧ P = a2 ∧ 1 = code ∧ σ = σ')
  ∨ (∃ (j : Nat) (hj12 : j < 12) (P : Int32) (np : Nat) (hnp : σ.1 1 = nI np) (hn8 : np ≤ 8) (hq1 : ¬ P &&& ((bI np - 1) ^^^ (-1)) = 0), nI j = a1 ∧ P = a2 ∧ 1 = code ∧ σ = σ')
  ∨ (∃ (j : Nat) (hj12 : j < 12) (P : Int32) (np : Nat) (hnp : σ.1 1 = nI np) (hn8 : np ≤ 8) (hq1 : P &&& ((bI np - 1) ^^^ (-1)) = 0) (hq2 : P = 0), nI j = a1 ∧ P = a2 ∧ 2 = code ∧ σ = σ')
  ∨ (∃ (j : Nat) (hj12 : j < 12) (P : Int32) (np : Nat) (hnp : σ.1 1 = nI np) (hn8 : np ≤ 8) (nr : Nat) (hnr : σ.1 6 = nI nr) (hn30 : nr ≤ 30) (hq1 : P &&& ((bI np - 1) ^^^ (-1)) = 0) (hq2 : ¬ P = 0) (hbad : nr = 30 ∨ x_open σ np P (bI j) (σ.1 0) = false), nI j = a1 ∧ P = a2 ∧ 3 = code ∧ σ = σ')
  ∨ (∃ (j : Nat) (hj12 : j < 12) (P : Int32) (nr : Nat) (hnr : σ.1 6 = nI nr) (hr30 : nr < 30) (np : Nat) (hnp : σ.1 1 = nI np) (hn8 : np ≤ 8) (hq1 : P &&& ((bI np - 1) ^^^ (-1)) = 0) (hq2 : ¬ P = 0) (hop : x_open σ np P (bI j) (σ.1 0) = true), nI j = a1 ∧ P = a2 ∧ 0 = code ∧ x_addR σ nr (bI j) P 0 = σ' ∧ (nI nr) = val)
def x_out_derive (σ : ST) (a1 : Int32) (a2 : Int32) (code : Nat) (val : Int32) (σ' : ST) : Prop :=
  (∃ (v : Int32) (hv : v < 0 ∨ σ.1 6 ≤ v) (P : Int32), v = a1 ∧ P = a2 ∧ 1 = code ∧ σ = σ')
  ∨ (∃ (r : Nat) (nr : Nat) (hnr : σ.1 6 = nI nr) (hn30 : nr ≤ 30) (hrn : r < nr) (P : Int32) (np : Nat) (hnp : σ.1 1 = nI np) (hn8 : np ≤ 8) (hq1 : ¬ P &&& ((bI np - 1) ^^^ (-1)) = 0), nI r = a1 ∧ P = a2 ∧ 1 = code ∧ σ = σ')
  ∨ (∃ (r : Nat) (nr : Nat) (hnr : σ.1 6 = nI nr) (hn30 : nr ≤ 30) (hrn : r < nr) (P : Int32) (np : Nat) (hnp : σ.1 1 = nI np) (hn8 : np ≤ 8) (hq1 : P &&& ((bI np - 1) ^^^ (-1)) = 0) (hq2 : P = 0), nI r = a1 ∧ P = a2 ∧ 2 = code ∧ σ = σ')
  ∨ (∃ (r : Nat) (nr : Nat) (hnr : σ.1 6 = nI nr) (hn30 : nr ≤ 30) (hrn : r < nr) (P : Int32) (np : Nat) (hnp : σ.1 1 = nI np) (hn8 : np ≤ 8) (hq1 : P &&& ((bI np - 1) ^^^ (-1)) = 0) (hq2 : ¬ P = 0) (hpr : bt (σ.1 12) r = false), nI r = a1 ∧ P = a2 ∧ 3 = code ∧ σ = σ')
  ∨ (∃ (r : Nat) (nr : Nat) (hnr : σ.1 6 = nI nr) (hn30 : nr ≤ 30) (hrn : r < nr) (P : Int32) (np : Nat) (hnp : σ.1 1 = nI np) (hn8 : np ≤ 8) (hq1 : P &&& ((bI np - 1) ^^^ (-1)) = 0) (hq2 : ¬ P = 0) (hpr : bt (σ.1 12) r = true) (hbad : nr = 30 ∨ x_open σ np P (σ.2 9 r) (σ.1 0) = false), nI r = a1 ∧ P = a2 ∧ 3 = code ∧ σ = σ')
  ∨ (∃ (r : Nat) (P : Int32) (nr : Nat) (hnr : σ.1 6 = nI nr) (hr30 : nr < 30) (hrn : r < nr) (np : Nat) (hnp : σ.1 1 = nI np) (hn8 : np ≤ 8) (hq1 : P &&& ((bI np - 1) ^^^ (-1)) = 0) (hq2 : ¬ P = 0) (hpr : bt (σ.1 12) r = true) (hop : x_open σ np P (σ.2 9 r) (σ.1 0) = true), nI r = a1 ∧ P = a2 ∧ 0 = code ∧ x_addR σ nr (σ.2 9 r) P (bI r) = σ' ∧ (nI nr) = val)
def x_out_addSource (σ : ST) (a1 : Int32) (a2 : Int32) (code : Nat) (val : Int32) (σ' : ST) : Prop :=
  (∃ (v : Int32) (hv : v < 0 ∨ σ.1 6 ≤ v) (w : Int32), v = a1 ∧ w = a2 ∧ 1 = code ∧ σ = σ')
  ∨ (∃ (r : Nat) (nr : Nat) (hnr : σ.1 6 = nI nr) (hn30 : nr ≤ 30) (hrn : r < nr) (v : Int32) (hv : v < 0 ∨ σ.1 6 ≤ v), nI r = a1 ∧ v = a2 ∧ 1 = code ∧ σ = σ')
  ∨ (∃ (r : Nat) (sr : Nat) (nr : Nat) (hnr : σ.1 6 = nI nr) (hn30 : nr ≤ 30) (hrn : r < nr) (hsn : sr < nr) (hsr : r ≤ sr), nI r = a1 ∧ nI sr = a2 ∧ 2 = code ∧ σ = σ')
  ∨ (∃ (r : Nat) (sr : Nat) (nr : Nat) (hnr : σ.1 6 = nI nr) (hn30 : nr ≤ 30) (hrn : r < nr) (hsn : sr < nr) (hsr : sr < r) (hso : bt (σ.2 10 r) sr = true), nI r = a1 ∧ nI sr = a2 ∧ 2 = code ∧ σ = σ')
  ∨ (∃ (r : Nat) (sr : Nat) (nr : Nat) (hnr : σ.1 6 = nI nr) (hn30 : nr ≤ 30) (hrn : r < nr) (hsn : sr < nr) (hsr : sr < r) (hso : bt (σ.2 10 r) sr = false) (hrt : σ.2 10 r = 0), nI r = a1 ∧ nI sr = a2 ∧ 3 = code ∧ σ = σ')
  ∨ (∃ (r : Nat) (sr : Nat) (nr : Nat) (hnr : σ.1 6 = nI nr) (hn30 : nr ≤ 30) (hrn : r < nr) (hsn : sr < nr) (hsr : sr < r) (hso : bt (σ.2 10 r) sr = false) (hrt : ¬ σ.2 10 r = 0) (hpr : bt (σ.1 12) r = false ∨ bt (σ.1 12) sr = false), nI r = a1 ∧ nI sr = a2 ∧ 3 = code ∧ σ = σ')
  ∨ (∃ (r : Nat) (sr : Nat) (nr : Nat) (hnr : σ.1 6 = nI nr) (hn30 : nr ≤ 30) (hrn : r < nr) (hsn : sr < nr) (hsr : sr < r) (hso : bt (σ.2 10 r) sr = false) (hrt : ¬ σ.2 10 r = 0) (hp1 : bt (σ.1 12) r = true) (hp2 : bt (σ.1 12) sr = true), nI r = a1 ∧ nI sr = a2 ∧ 0 = code ∧ x_asS σ nr r sr = σ' ∧ (x_pop ((x_asS σ nr r sr).2 9 r)) = val)
def x_out_stateOf (σ : ST) (a1 : Int32) (code : Nat) (val : Int32) (σ' : ST) : Prop :=
  (∃ (v : Int32) (hv : v < 0 ∨ σ.1 6 ≤ v), v = a1 ∧ 1 = code ∧ σ = σ')
  ∨ (∃ (r : Nat) (nr : Nat) (hnr : σ.1 6 = nI nr) (hn30 : nr ≤ 30) (hrn : r < nr), nI r = a1 ∧ 0 = code ∧ σ = σ' ∧ (x_state σ r) = val)
def x_out_subjectsOf (σ : ST) (a1 : Int32) (code : Nat) (val : Int32) (σ' : ST) : Prop :=
  (∃ (v : Int32) (hv : v < 0 ∨ σ.1 6 ≤ v), v = a1 ∧ 1 = code ∧ σ = σ')
  ∨ (∃ (r : Nat) (nr : Nat) (hnr : σ.1 6 = nI nr) (hn30 : nr ≤ 30) (hrn : r < nr), nI r = a1 ∧ 0 = code ∧ σ = σ' ∧ (σ.2 9 r) = val)
def x_out_below (σ : ST) (a1 : Int32) (code : Nat) (val : Int32) (σ' : ST) : Prop :=
  (∃ (v : Int32) (hv : v < 0 ∨ σ.1 6 ≤ v), v = a1 ∧ 1 = code ∧ σ = σ')
  ∨ (∃ (r : Nat) (nr : Nat) (hnr : σ.1 6 = nI nr) (hn30 : nr ≤ 30) (hrn : r < nr), nI r = a1 ∧ 0 = code ∧ σ = σ' ∧ (x_bel σ nr r) = val)
def x_out_endOf (σ : ST) (a1 : Int32) (code : Nat) (val : Int32) (σ' : ST) : Prop :=
  (∃ (v : Int32) (hv : v < 0 ∨ σ.1 6 ≤ v), v = a1 ∧ 1 = code ∧ σ = σ')
  ∨ (∃ (r : Nat) (nr : Nat) (hnr : σ.1 6 = nI nr) (hn30 : nr ≤ 30) (hrn : r < nr) (np : Nat) (hnp : σ.1 1 = nI np) (hn8 : np ≤ 8), nI r = a1 ∧ 0 = code ∧ σ = σ' ∧ (x_end σ np r) = val)
def x_out_whyNoUse (σ : ST) (a1 : Int32) (a2 : Int32) (code : Nat) (val : Int32) (σ' : ST) : Prop :=
  (∃ (v : Int32) (hv : v < 0 ∨ σ.1 6 ≤ v) (w : Int32), v = a1 ∧ w = a2 ∧ 1 = code ∧ σ = σ')
  ∨ (∃ (r : Nat) (nr : Nat) (hnr : σ.1 6 = nI nr) (hn30 : nr ≤ 30) (hrn : r < nr) (v : Int32) (hv : v < 0 ∨ σ.1 1 ≤ v), nI r = a1 ∧ v = a2 ∧ 1 = code ∧ σ = σ')
  ∨ (∃ (r : Nat) (q : Nat) (nr : Nat) (hnr : σ.1 6 = nI nr) (hn30 : nr ≤ 30) (hrn : r < nr) (np : Nat) (hnp : σ.1 1 = nI np) (hn8 : np ≤ 8) (hq : q < np), nI r = a1 ∧ nI q = a2 ∧ 0 = code ∧ σ = σ' ∧ (x_why σ np r q) = val)
def x_out_use (σ : ST) (a1 : Int32) (a2 : Int32) (code : Nat) (val : Int32) (σ' : ST) : Prop :=
  (∃ (r : Nat) (q : Nat) (nr : Nat) (hnr : σ.1 6 = nI nr) (hn30 : nr ≤ 30) (hrn : r < nr) (np : Nat) (hnp : σ.1 1 = nI np) (hn8 : np ≤ 8) (hq : q < np) (hw : x_why σ np r q = 0), nI r = a1 ∧ nI q = a2 ∧ 0 = code ∧ s_put σ 11 (r * 8 + q) (σ.2 11 (r * 8 + q) + 1) = σ' ∧ (σ.2 11 (r * 8 + q) + 1) = val)
  ∨ (∃ (v : Int32) (hv : v < 0 ∨ σ.1 6 ≤ v) (w : Int32), v = a1 ∧ w = a2 ∧ 1 = code ∧ σ = σ')
  ∨ (∃ (r : Nat) (nr : Nat) (hnr : σ.1 6 = nI nr) (hn30 : nr ≤ 30) (hrn : r < nr) (v : Int32) (hv : v < 0 ∨ σ.1 1 ≤ v), nI r = a1 ∧ v = a2 ∧ 1 = code ∧ σ = σ')
  ∨ (∃ (r : Nat) (q : Nat) (nr : Nat) (hnr : σ.1 6 = nI nr) (hn30 : nr ≤ 30) (hrn : r < nr) (np : Nat) (hnp : σ.1 1 = nI np) (hn8 : np ≤ 8) (hq : q < np) (hw : ¬ x_why σ np r q = 0), nI r = a1 ∧ nI q = a2 ∧ 2 = code ∧ σ = σ')
def x_out_uses (σ : ST) (a1 : Int32) (a2 : Int32) (code : Nat) (val : Int32) (σ' : ST) : Prop :=
  (∃ (v : Int32) (hv : v < 0 ∨ 12 ≤ v) (w : Int32), v = a1 ∧ w = a2 ∧ 1 = code ∧ σ = σ')
  ∨ (∃ (j : Nat) (hj12 : j < 12) (v : Int32) (hv : v < 0 ∨ σ.1 1 ≤ v), nI j = a1 ∧ v = a2 ∧ 1 = code ∧ σ = σ')
  ∨ (∃ (j : Nat) (hj12 : j < 12) (q : Nat) (np : Nat) (hnp : σ.1 1 = nI np) (hn8 : np ≤ 8) (hq : q < np) (nr : Nat) (hnr : σ.1 6 = nI nr) (hn30 : nr ≤ 30), nI j = a1 ∧ nI q = a2 ∧ 0 = code ∧ σ = σ' ∧ (x_uses (σ.2 11) (σ.2 9) j q nr) = val)
def x_out_passDays (σ : ST) (a1 : Int32) (code : Nat) (val : Int32) (σ' : ST) : Prop :=
  (∃ (v : Int32) (hv : v < 1 ∨ ¬ v ≤ 1000), v = a1 ∧ 1 = code ∧ σ = σ')
  ∨ (∃ (dd : Int32) (hd1 : 1 ≤ dd) (hd2 : dd ≤ 1000) (np : Nat) (hnp : σ.1 1 = nI np) (hn8 : np ≤ 8) (nr : Nat) (hnr : σ.1 6 = nI nr) (hn30 : nr ≤ 30), dd = a1 ∧ 0 = code ∧ x_req (s_set (x_cdA σ np dd) 0 (σ.1 0 + dd)) (x_due (s_set (x_cdA σ np dd) 0 (σ.1 0 + dd)) np nr) nr = σ' ∧ (x_pop (x_rq (s_set (x_cdA σ np dd) 0 (σ.1 0 + dd)) (x_due (s_set (x_cdA σ np dd) 0 (σ.1 0 + dd)) np nr) nr)) = val)
def x_out_hold (σ : ST) (a1 : Int32) (a2 : Int32) (code : Nat) (val : Int32) (σ' : ST) : Prop :=
  (∃ (v : Int32) (hv : v < 0 ∨ 6 ≤ v) (w : Int32), v = a1 ∧ w = a2 ∧ 1 = code ∧ σ = σ')
  ∨ (∃ (i : Nat) (hi6 : i < 6) (v : Int32) (hv : v < 0 ∨ σ.1 6 ≤ v), nI i = a1 ∧ v = a2 ∧ 1 = code ∧ σ = σ')
  ∨ (∃ (i : Nat) (r : Nat) (nr : Nat) (hnr : σ.1 6 = nI nr) (hn30 : nr ≤ 30) (hrn : r < nr) (hi6 : i < 6) (her : bt (σ.1 14) r = true), nI i = a1 ∧ nI r = a2 ∧ 2 = code ∧ σ = σ')
  ∨ (∃ (i : Nat) (r : Nat) (nr : Nat) (hnr : σ.1 6 = nI nr) (hn30 : nr ≤ 30) (hrn : r < nr) (hi6 : i < 6) (her : bt (σ.1 14) r = false) (hho : bt (σ.2 15 i) r = true), nI i = a1 ∧ nI r = a2 ∧ 2 = code ∧ σ = σ')
  ∨ (∃ (i : Nat) (r : Nat) (nr : Nat) (hnr : σ.1 6 = nI nr) (hn30 : nr ≤ 30) (hrn : r < nr) (hi6 : i < 6) (her : bt (σ.1 14) r = false) (hho : bt (σ.2 15 i) r = false), nI i = a1 ∧ nI r = a2 ∧ 0 = code ∧ s_put σ 15 i (σ.2 15 i ||| bI r) = σ' ∧ (x_pop (σ.2 15 i ||| bI r)) = val)
def x_out_close (σ : ST) (a1 : Int32) (code : Nat) (val : Int32) (σ' : ST) : Prop :=
  (∃ (v : Int32) (hv : v < 0 ∨ 6 ≤ v), v = a1 ∧ 1 = code ∧ σ = σ')
  ∨ (∃ (i : Nat) (hi6 : i < 6), nI i = a1 ∧ 0 = code ∧ s_put σ 15 i 0 = σ' ∧ (x_pop (x_held (σ.2 15) 6 &&& (x_held ((s_put σ 15 i 0).2 15) 6 ^^^ (-1)))) = val)
def x_out_request (σ : ST) (a1 : Int32) (code : Nat) (val : Int32) (σ' : ST) : Prop :=
  (∃ (v : Int32) (hv : v < 0 ∨ 12 ≤ v), v = a1 ∧ 1 = code ∧ σ = σ')
  ∨ (∃ (j : Nat) (hj12 : j < 12) (nr : Nat) (hnr : σ.1 6 = nI nr) (hn30 : nr ≤ 30), nI j = a1 ∧ 0 = code ∧ x_req σ (x_rof (σ.2 9) j nr &&& σ.1 12) nr = σ' ∧ (x_pop (x_rq σ (x_rof (σ.2 9) j nr &&& σ.1 12) nr)) = val)
def x_out_whyKept (σ : ST) (a1 : Int32) (code : Nat) (val : Int32) (σ' : ST) : Prop :=
  (∃ (v : Int32) (hv : v < 0 ∨ σ.1 6 ≤ v), v = a1 ∧ 1 = code ∧ σ = σ')
  ∨ (∃ (r : Nat) (nr : Nat) (hnr : σ.1 6 = nI nr) (hn30 : nr ≤ 30) (hrn : r < nr), nI r = a1 ∧ 0 = code ∧ σ = σ' ∧ (x_kept σ nr r) = val)
def x_out_traces (σ : ST) (a1 : Int32) (code : Nat) (val : Int32) (σ' : ST) : Prop :=
  (∃ (v : Int32) (hv : v < 0 ∨ 12 ≤ v), v = a1 ∧ 1 = code ∧ σ = σ')
  ∨ (∃ (j : Nat) (hj12 : j < 12) (nr : Nat) (hnr : σ.1 6 = nI nr) (hn30 : nr ≤ 30), nI j = a1 ∧ 0 = code ∧ σ = σ' ∧ (x_rof (σ.2 9) j nr &&& (σ.1 14 ^^^ (-1))) = val)
def x_out_tracesFromRoots (σ : ST) (a1 : Int32) (code : Nat) (val : Int32) (σ' : ST) : Prop :=
  (∃ (v : Int32) (hv : v < 0 ∨ 12 ≤ v), v = a1 ∧ 1 = code ∧ σ = σ')
  ∨ (∃ (j : Nat) (hj12 : j < 12) (nr : Nat) (hnr : σ.1 6 = nI nr) (hn30 : nr ≤ 30), nI j = a1 ∧ 0 = code ∧ σ = σ' ∧ (x_wab (σ.2 10) (x_roots (σ.2 10) (σ.2 9) j nr) nr &&& (σ.1 14 ^^^ (-1))) = val)
