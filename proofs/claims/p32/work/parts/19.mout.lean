/-! ===== what a call does: all its ways ===== -/
def m_out_addPurpose (σ : ST) (a1 : Int32) (a2 : Bool) (val : Int32) (σ' : ST) : Prop :=
  (∃ (v : Int32) (g : Bool) (hbad : m_in v 0 3650 = false), v = a1 ∧ g = a2 ∧ s_set (s_set σ 0 0) 0 1 = σ' ∧ 0 = val)
  ∨ (∃ (v : Int32) (g : Bool) (hv : m_in v 0 3650 = true) (hfull : σ.1 2 = 8), v = a1 ∧ g = a2 ∧ s_set (s_set σ 0 0) 0 2 = σ' ∧ 0 = val)
  ∨ (∃ (v : Int32) (g : Bool) (hv : m_in v 0 3650 = true) (np : Nat) (hnp : σ.1 2 = nI np) (hlt8 : np < 8), v = a1 ∧ g = a2 ∧ m_addP σ np v g = σ' ∧ (nI np) = val)
def m_out_setRetention (σ : ST) (a1 : Int32) (a2 : Int32) (val : Int32) (σ' : ST) : Prop :=
  (∃ (v : Int32) (w : Int32) (hbad : m_in v 0 (σ.1 2 - 1) = false), v = a1 ∧ w = a2 ∧ s_set (s_set σ 0 0) 0 1 = σ' ∧ 0 = val)
  ∨ (∃ (q : Nat) (v : Int32) (np : Nat) (hnp : σ.1 2 = nI np) (hn8 : np ≤ 8) (hq : q < np) (hbad : m_in v 0 3650 = false), nI q = a1 ∧ v = a2 ∧ s_set (s_set σ 0 0) 0 2 = σ' ∧ 0 = val)
  ∨ (∃ (q : Nat) (v : Int32) (np : Nat) (hnp : σ.1 2 = nI np) (hn8 : np ≤ 8) (hq : q < np) (hv : m_in v 0 3650 = true), nI q = a1 ∧ v = a2 ∧ s_put (s_set σ 0 0) 3 q v = σ' ∧ (σ.2 3 q) = val)
def m_out_consent (σ : ST) (a1 : Int32) (a2 : Int32) (a3 : Bool) (val : Bool) (σ' : ST) : Prop :=
  (∃ (v : Int32) (w : Int32) (g : Bool) (hbad : m_in v 0 11 = false ∨ m_in w 0 (σ.1 2 - 1) = false), v = a1 ∧ w = a2 ∧ g = a3 ∧ s_set σ 0 1 = σ' ∧ false = val)
  ∨ (∃ (j : Nat) (hj12 : j < 12) (q : Nat) (g : Bool) (np : Nat) (hnp : σ.1 2 = nI np) (hn8 : np ≤ 8) (hq : q < np), nI j = a1 ∧ nI q = a2 ∧ g = a3 ∧ m_consS σ j q g = σ' ∧ (!(bt (σ.2 5 j) q == g)) = val)
def m_out_consents (σ : ST) (a1 : Int32) (val : Int32) (σ' : ST) : Prop :=
  (∃ (v : Int32) (hbad : m_in v 0 11 = false), v = a1 ∧ s_set (s_set σ 0 0) 0 1 = σ' ∧ 0 = val)
  ∨ (∃ (j : Nat) (hj12 : j < 12), nI j = a1 ∧ s_set σ 0 0 = σ' ∧ (σ.2 5 j) = val)
def m_out_daysWithConsent (σ : ST) (a1 : Int32) (a2 : Int32) (val : Int32) (σ' : ST) : Prop :=
  (∃ (v : Int32) (w : Int32) (hbad : m_in v 0 11 = false ∨ m_in w 0 (σ.1 2 - 1) = false), v = a1 ∧ w = a2 ∧ s_set (s_set σ 0 0) 0 1 = σ' ∧ 0 = val)
  ∨ (∃ (j : Nat) (hj12 : j < 12) (q : Nat) (np : Nat) (hnp : σ.1 2 = nI np) (hn8 : np ≤ 8) (hq : q < np), nI j = a1 ∧ nI q = a2 ∧ s_set σ 0 0 = σ' ∧ (σ.2 6 (8 * j + q)) = val)
def m_out_add (σ : ST) (a1 : Int32) (a2 : Int32) (val : Int32) (σ' : ST) : Prop :=
  (∃ (v : Int32) (P : Int32) (hbad : m_in v 0 11 = false ∨ m_in P 0 ((1 : Int32) <<< (σ.1 2 &&& 31) - 1) = false), v = a1 ∧ P = a2 ∧ s_set (s_set σ 0 0) 0 1 = σ' ∧ 0 = val)
  ∨ (∃ (j : Nat) (hj12 : j < 12) (P : Int32) (hset : m_in P 0 ((1 : Int32) <<< (σ.1 2 &&& 31) - 1) = true) (hq2 : P = 0), nI j = a1 ∧ P = a2 ∧ s_set (s_set σ 0 0) 0 2 = σ' ∧ 0 = val)
  ∨ (∃ (j : Nat) (hj12 : j < 12) (P : Int32) (np : Nat) (hnp : σ.1 2 = nI np) (hn8 : np ≤ 8) (nr : Nat) (hnr : σ.1 7 = nI nr) (hn30 : nr ≤ 30) (hset : m_in P 0 ((1 : Int32) <<< (σ.1 2 &&& 31) - 1) = true) (hq2 : ¬ P = 0) (hbad : nr = 30 ∨ ¬ σ.1 1 < m_enf σ.2 P (bI j) (σ.1 1) np), nI j = a1 ∧ P = a2 ∧ s_set (s_set σ 0 0) 0 3 = σ' ∧ 0 = val)
  ∨ (∃ (j : Nat) (hj12 : j < 12) (P : Int32) (np : Nat) (hnp : σ.1 2 = nI np) (hn8 : np ≤ 8) (nr : Nat) (hnr : σ.1 7 = nI nr) (hr30 : nr < 30) (hset : m_in P 0 ((1 : Int32) <<< (σ.1 2 &&& 31) - 1) = true) (hq2 : ¬ P = 0) (hop : σ.1 1 < m_enf σ.2 P (bI j) (σ.1 1) np), nI j = a1 ∧ P = a2 ∧ m_lay (s_set σ 0 0) nr (nI j) 0 P = σ' ∧ (nI nr) = val)
def m_out_derive (σ : ST) (a1 : Int32) (a2 : Int32) (val : Int32) (σ' : ST) : Prop :=
  (∃ (v : Int32) (P : Int32) (hbad : m_in v 0 (σ.1 7 - 1) = false ∨ m_in P 0 ((1 : Int32) <<< (σ.1 2 &&& 31) - 1) = false), v = a1 ∧ P = a2 ∧ s_set (s_set σ 0 0) 0 1 = σ' ∧ 0 = val)
  ∨ (∃ (r : Nat) (nr : Nat) (hnr : σ.1 7 = nI nr) (hn30 : nr ≤ 30) (hrn : r < nr) (P : Int32) (hset : m_in P 0 ((1 : Int32) <<< (σ.1 2 &&& 31) - 1) = true) (hq2 : P = 0), nI r = a1 ∧ P = a2 ∧ s_set (s_set σ 0 0) 0 2 = σ' ∧ 0 = val)
  ∨ (∃ (r : Nat) (nr : Nat) (hnr : σ.1 7 = nI nr) (hn30 : nr ≤ 30) (hrn : r < nr) (P : Int32) (np : Nat) (hnp : σ.1 2 = nI np) (hn8 : np ≤ 8) (hset : m_in P 0 ((1 : Int32) <<< (σ.1 2 &&& 31) - 1) = true) (hq2 : ¬ P = 0) (hbad : nr = 30 ∨ ¬ σ.2 12 r = 0 ∨ ¬ σ.1 1 < m_enf σ.2 P (m_subj σ.2 r) (σ.1 1) np), nI r = a1 ∧ P = a2 ∧ s_set (s_set σ 0 0) 0 3 = σ' ∧ 0 = val)
  ∨ (∃ (r : Nat) (P : Int32) (np : Nat) (hnp : σ.1 2 = nI np) (hn8 : np ≤ 8) (nr : Nat) (hnr : σ.1 7 = nI nr) (hr30 : nr < 30) (hrn : r < nr) (hset : m_in P 0 ((1 : Int32) <<< (σ.1 2 &&& 31) - 1) = true) (hq2 : ¬ P = 0) (hpr : σ.2 12 r = 0) (hop : σ.1 1 < m_enf σ.2 P (m_subj σ.2 r) (σ.1 1) np), nI r = a1 ∧ P = a2 ∧ m_lay (s_set σ 0 0) nr (-1) (bI r) P = σ' ∧ (nI nr) = val)
def m_out_addSource (σ : ST) (a1 : Int32) (a2 : Int32) (val : Int32) (σ' : ST) : Prop :=
  (∃ (v : Int32) (w : Int32) (hbad : m_in v 0 (σ.1 7 - 1) = false ∨ m_in w 0 (σ.1 7 - 1) = false), v = a1 ∧ w = a2 ∧ s_set (s_set σ 0 0) 0 1 = σ' ∧ 0 = val)
  ∨ (∃ (r : Nat) (sr : Nat) (nr : Nat) (hnr : σ.1 7 = nI nr) (hn30 : nr ≤ 30) (hrn : r < nr) (hsn : sr < nr) (hbad : r ≤ sr ∨ bt (σ.2 9 r) sr = true), nI r = a1 ∧ nI sr = a2 ∧ s_set (s_set σ 0 0) 0 2 = σ' ∧ 0 = val)
  ∨ (∃ (r : Nat) (sr : Nat) (nr : Nat) (hnr : σ.1 7 = nI nr) (hn30 : nr ≤ 30) (hrn : r < nr) (hsn : sr < nr) (hsr : sr < r) (hso : bt (σ.2 9 r) sr = false) (hbad : σ.2 9 r = 0 ∨ ¬ σ.2 12 r = 0 ∨ ¬ σ.2 12 sr = 0), nI r = a1 ∧ nI sr = a2 ∧ s_set (s_set σ 0 0) 0 3 = σ' ∧ 0 = val)
  ∨ (∃ (r : Nat) (sr : Nat) (nr : Nat) (hnr : σ.1 7 = nI nr) (hn30 : nr ≤ 30) (hrn : r < nr) (hsn : sr < nr) (hsr : sr < r) (hso : bt (σ.2 9 r) sr = false) (hrt : ¬ σ.2 9 r = 0) (hp1 : σ.2 12 r = 0) (hp2 : σ.2 12 sr = 0), nI r = a1 ∧ nI sr = a2 ∧ s_put (s_set σ 0 0) 9 r (σ.2 9 r ||| bI sr) = σ' ∧ (m_size (m_subj (s_put (s_set σ 0 0) 9 r (σ.2 9 r ||| bI sr)).2 r) 30) = val)
def m_out_stateOf (σ : ST) (a1 : Int32) (val : Int32) (σ' : ST) : Prop :=
  (∃ (v : Int32) (hbad : m_in v 0 (σ.1 7 - 1) = false), v = a1 ∧ s_set (s_set σ 0 0) 0 1 = σ' ∧ 0 = val)
  ∨ (∃ (r : Nat) (nr : Nat) (hnr : σ.1 7 = nI nr) (hn30 : nr ≤ 30) (hrn : r < nr), nI r = a1 ∧ s_set σ 0 0 = σ' ∧ (σ.2 12 r) = val)
def m_out_subjectsOf (σ : ST) (a1 : Int32) (val : Int32) (σ' : ST) : Prop :=
  (∃ (v : Int32) (hbad : m_in v 0 (σ.1 7 - 1) = false), v = a1 ∧ s_set (s_set σ 0 0) 0 1 = σ' ∧ 0 = val)
  ∨ (∃ (r : Nat) (nr : Nat) (hnr : σ.1 7 = nI nr) (hn30 : nr ≤ 30) (hrn : r < nr), nI r = a1 ∧ s_set σ 0 0 = σ' ∧ (m_subj σ.2 r) = val)
def m_out_below (σ : ST) (a1 : Int32) (val : Int32) (σ' : ST) : Prop :=
  (∃ (v : Int32) (hbad : m_in v 0 (σ.1 7 - 1) = false), v = a1 ∧ s_set (s_set σ 0 0) 0 1 = σ' ∧ 0 = val)
  ∨ (∃ (r : Nat) (nr : Nat) (hnr : σ.1 7 = nI nr) (hn30 : nr ≤ 30) (hrn : r < nr), nI r = a1 ∧ s_set σ 0 0 = σ' ∧ (m_belk (σ.2 9) r nr) = val)
def m_out_endOf (σ : ST) (a1 : Int32) (val : Int32) (σ' : ST) : Prop :=
  (∃ (v : Int32) (hbad : m_in v 0 (σ.1 7 - 1) = false), v = a1 ∧ s_set (s_set σ 0 0) 0 1 = σ' ∧ 0 = val)
  ∨ (∃ (r : Nat) (nr : Nat) (hnr : σ.1 7 = nI nr) (hn30 : nr ≤ 30) (hrn : r < nr) (np : Nat) (hnp : σ.1 2 = nI np) (hn8 : np ≤ 8), nI r = a1 ∧ s_set σ 0 0 = σ' ∧ (m_end σ.2 np r) = val)
def m_out_whyNoUse (σ : ST) (a1 : Int32) (a2 : Int32) (val : Int32) (σ' : ST) : Prop :=
  (∃ (v : Int32) (w : Int32) (hbad : m_in v 0 (σ.1 7 - 1) = false ∨ m_in w 0 (σ.1 2 - 1) = false), v = a1 ∧ w = a2 ∧ s_set (s_set σ 0 0) 0 1 = σ' ∧ 0 = val)
  ∨ (∃ (r : Nat) (q : Nat) (nr : Nat) (hnr : σ.1 7 = nI nr) (hn30 : nr ≤ 30) (hrn : r < nr) (np : Nat) (hnp : σ.1 2 = nI np) (hn8 : np ≤ 8) (hq : q < np), nI r = a1 ∧ nI q = a2 ∧ s_set σ 0 0 = σ' ∧ (m_rsn σ.2 (σ.1 1) r q) = val)
def m_out_use (σ : ST) (a1 : Int32) (a2 : Int32) (val : Int32) (σ' : ST) : Prop :=
  (∃ (v : Int32) (w : Int32) (hbad : m_in v 0 (σ.1 7 - 1) = false ∨ m_in w 0 (σ.1 2 - 1) = false), v = a1 ∧ w = a2 ∧ s_set (s_set σ 0 0) 0 1 = σ' ∧ 0 = val)
  ∨ (∃ (r : Nat) (q : Nat) (nr : Nat) (hnr : σ.1 7 = nI nr) (hn30 : nr ≤ 30) (hrn : r < nr) (np : Nat) (hnp : σ.1 2 = nI np) (hn8 : np ≤ 8) (hq : q < np) (hw : 0 < m_rsn σ.2 (σ.1 1) r q), nI r = a1 ∧ nI q = a2 ∧ s_set (s_set σ 0 0) 0 2 = σ' ∧ 0 = val)
  ∨ (∃ (r : Nat) (q : Nat) (nr : Nat) (hnr : σ.1 7 = nI nr) (hn30 : nr ≤ 30) (hrn : r < nr) (np : Nat) (hnp : σ.1 2 = nI np) (hn8 : np ≤ 8) (hq : q < np) (hw : m_rsn σ.2 (σ.1 1) r q ≤ 0), nI r = a1 ∧ nI q = a2 ∧ s_put (s_set σ 0 0) 13 (8 * r + q) (σ.2 13 (8 * r + q) + 1) = σ' ∧ (σ.2 13 (8 * r + q) + 1) = val)
def m_out_uses (σ : ST) (a1 : Int32) (a2 : Int32) (val : Int32) (σ' : ST) : Prop :=
  (∃ (v : Int32) (w : Int32) (hbad : m_in v 0 11 = false ∨ m_in w 0 (σ.1 2 - 1) = false), v = a1 ∧ w = a2 ∧ s_set (s_set σ 0 0) 0 1 = σ' ∧ 0 = val)
  ∨ (∃ (j : Nat) (hj12 : j < 12) (q : Nat) (np : Nat) (hnp : σ.1 2 = nI np) (hn8 : np ≤ 8) (hq : q < np) (nr : Nat) (hnr : σ.1 7 = nI nr) (hn30 : nr ≤ 30), nI j = a1 ∧ nI q = a2 ∧ s_set σ 0 0 = σ' ∧ (m_uses σ.2 j q nr) = val)
def m_out_passDays (σ : ST) (a1 : Int32) (val : Int32) (σ' : ST) : Prop :=
  (∃ (v : Int32) (hbad : m_in v 1 1000 = false), v = a1 ∧ s_set (s_set σ 0 0) 0 1 = σ' ∧ 0 = val)
  ∨ (∃ (dd : Int32) (hv : m_in dd 1 1000 = true) (np : Nat) (hnp : σ.1 2 = nI np) (hn8 : np ≤ 8) (nr : Nat) (hnr : σ.1 7 = nI nr) (hn30 : nr ≤ 30), dd = a1 ∧ m_paS nr (m_due (m_pdS (s_set σ 0 0) dd 96).2 (σ.1 1 + dd) np nr) (s_set (m_pdS (s_set σ 0 0) dd 96) 1 (σ.1 1 + dd)) nr = σ' ∧ (m_paC nr (m_due (m_pdS (s_set σ 0 0) dd 96).2 (σ.1 1 + dd) np nr) (s_set (m_pdS (s_set σ 0 0) dd 96) 1 (σ.1 1 + dd)) nr) = val)
def m_out_hold (σ : ST) (a1 : Int32) (a2 : Int32) (val : Int32) (σ' : ST) : Prop :=
  (∃ (v : Int32) (w : Int32) (hbad : m_in v 0 5 = false ∨ m_in w 0 (σ.1 7 - 1) = false), v = a1 ∧ w = a2 ∧ s_set (s_set σ 0 0) 0 1 = σ' ∧ 0 = val)
  ∨ (∃ (i : Nat) (r : Nat) (nr : Nat) (hnr : σ.1 7 = nI nr) (hn30 : nr ≤ 30) (hrn : r < nr) (hi6 : i < 6) (hbad : σ.2 12 r = 2 ∨ bt (σ.2 14 i) r = true), nI i = a1 ∧ nI r = a2 ∧ s_set (s_set σ 0 0) 0 2 = σ' ∧ 0 = val)
  ∨ (∃ (i : Nat) (r : Nat) (nr : Nat) (hnr : σ.1 7 = nI nr) (hn30 : nr ≤ 30) (hrn : r < nr) (hi6 : i < 6) (her : ¬ σ.2 12 r = 2) (hho : bt (σ.2 14 i) r = false), nI i = a1 ∧ nI r = a2 ∧ s_put (s_set σ 0 0) 14 i (σ.2 14 i ||| bI r) = σ' ∧ (m_size (σ.2 14 i ||| bI r) 30) = val)
def m_out_close (σ : ST) (a1 : Int32) (val : Int32) (σ' : ST) : Prop :=
  (∃ (v : Int32) (hbad : m_in v 0 5 = false), v = a1 ∧ s_set (s_set σ 0 0) 0 1 = σ' ∧ 0 = val)
  ∨ (∃ (i : Nat) (hi6 : i < 6), nI i = a1 ∧ s_put (s_set σ 0 0) 14 i 0 = σ' ∧ (m_size (x_held (σ.2 14) 6) 30 - m_size (x_held ((s_put (s_set σ 0 0) 14 i 0).2 14) 6) 30) = val)
def m_out_request (σ : ST) (a1 : Int32) (val : Int32) (σ' : ST) : Prop :=
  (∃ (v : Int32) (hbad : m_in v 0 11 = false), v = a1 ∧ s_set (s_set σ 0 0) 0 1 = σ' ∧ 0 = val)
  ∨ (∃ (j : Nat) (hj12 : j < 12) (nr : Nat) (hnr : σ.1 7 = nI nr) (hn30 : nr ≤ 30), nI j = a1 ∧ m_rqS nr j (s_set σ 0 0) nr = σ' ∧ (m_rqC nr j (s_set σ 0 0) nr) = val)
def m_out_whyKept (σ : ST) (a1 : Int32) (val : Int32) (σ' : ST) : Prop :=
  (∃ (v : Int32) (hbad : m_in v 0 (σ.1 7 - 1) = false), v = a1 ∧ s_set (s_set σ 0 0) 0 1 = σ' ∧ 0 = val)
  ∨ (∃ (r : Nat) (nr : Nat) (hnr : σ.1 7 = nI nr) (hn30 : nr ≤ 30) (hrn : r < nr), nI r = a1 ∧ s_set σ 0 0 = σ' ∧ (m_kept σ.2 nr r) = val)
def m_out_traces (σ : ST) (a1 : Int32) (val : Int32) (σ' : ST) : Prop :=
  (∃ (v : Int32) (hbad : m_in v 0 11 = false), v = a1 ∧ s_set (s_set σ 0 0) 0 1 = σ' ∧ 0 = val)
  ∨ (∃ (j : Nat) (hj12 : j < 12) (nr : Nat) (hnr : σ.1 7 = nI nr) (hn30 : nr ≤ 30), nI j = a1 ∧ s_set σ 0 0 = σ' ∧ (m_trc σ.2 j nr) = val)
def m_out_tracesFromRoots (σ : ST) (a1 : Int32) (val : Int32) (σ' : ST) : Prop :=
  (∃ (v : Int32) (hbad : m_in v 0 11 = false), v = a1 ∧ s_set (s_set σ 0 0) 0 1 = σ' ∧ 0 = val)
  ∨ (∃ (j : Nat) (hj12 : j < 12) (nr : Nat) (hnr : σ.1 7 = nI nr) (hn30 : nr ≤ 30), nI j = a1 ∧ s_set σ 0 0 = σ' ∧ (m_trc σ.2 j nr) = val)
