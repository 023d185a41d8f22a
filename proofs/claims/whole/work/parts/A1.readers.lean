/-! READERS -/
theorem T_weight {μ : Mem} {a : Int} (h : INV μ) (ha : rng a) : Tw anyI mL_weight mX11_weight [.int (iI a)] μ := by
  refine to_w (d := 8) (by decide) (by decide) (by decide) (W_weight (to_c (g_weight ha (iS h) (iC h) (fun k hk hl => ?_) (fun hn => ⟨rfl, ?_⟩))))
  · rw [pvw]
    refine vok (to_m (by decide) (m_weight ha (iR9 h) (iS h) (iC h) (fun k' hk' hl' => ?_) (fun hn => absurd (show _ ∧ _ from ⟨by omega, by omega⟩) hn)))
    have e : k' = k := by omega
    subst e
    exact rd0 h (iI_wp _).symm
  · rw [pvw]
    exact tok (by decide) (to_m (by decide) (m_weight ha (iR h) (iS h) (iC h) (fun k' hk' hl' => absurd (show _ ∧ _ from ⟨by omega, by omega⟩) hn) (fun _ => rdk h (by decide))))
theorem T_purse {μ : Mem} {a : Int} (h : INV μ) (ha : rng a) : Tw anyI mL_purse mX11_purse [.int (iI a)] μ := by
  refine to_w (d := 8) (by decide) (by decide) (by decide) (W_purse (to_c (g_purse ha (iS h) (iC h) (fun k hk hl => ?_) (fun hn => ⟨rfl, ?_⟩))))
  · rw [pvw]
    refine vok (to_m (by decide) (m_purse ha (iR9 h) (iS h) (iC h) (fun k' hk' hl' => ?_) (fun hn => absurd (show _ ∧ _ from ⟨by omega, by omega⟩) hn)))
    have e : k' = k := by omega
    subst e
    exact rd0 h (iI_wp _).symm
  · rw [pvw]
    exact tok (by decide) (to_m (by decide) (m_purse ha (iR h) (iS h) (iC h) (fun k' hk' hl' => absurd (show _ ∧ _ from ⟨by omega, by omega⟩) hn) (fun _ => rdk h (by decide))))
theorem T_sharpness {μ : Mem} {a : Int} (h : INV μ) (ha : rng a) : Tw anyI mL_sharpness mX11_sharpness [.int (iI a)] μ := by
  refine to_w (d := 8) (by decide) (by decide) (by decide) (W_sharpness (to_c (g_sharpness ha (iS h) (iC h) (fun k hk hl => ?_) (fun hn => ⟨rfl, ?_⟩))))
  · rw [pvw]
    refine vok (to_m (by decide) (m_sharpness ha (iR9 h) (iS h) (iC h) (fun k' hk' hl' => ?_) (fun hn => absurd (show _ ∧ _ from ⟨by omega, by omega⟩) hn)))
    have e : k' = k := by omega
    subst e
    exact rd0 h (iI_wp _).symm
  · rw [pvw]
    exact tok (by decide) (to_m (by decide) (m_sharpness ha (iR h) (iS h) (iC h) (fun k' hk' hl' => absurd (show _ ∧ _ from ⟨by omega, by omega⟩) hn) (fun _ => rdk h (by decide))))
theorem T_speechesOf {μ : Mem} {a : Int} (h : INV μ) (ha : rng a) : Tw anyI mL_speechesOf mX11_speechesOf [.int (iI a)] μ := by
  refine to_w (d := 8) (by decide) (by decide) (by decide) (W_speechesOf (to_c (g_speechesOf ha (iS h) (iC h) (fun k hk hl => ?_) (fun hn => ⟨rfl, ?_⟩))))
  · rw [pvw]
    refine vok (to_m (by decide) (m_speechesOf ha (iR9 h) (iS h) (iC h) (fun k' hk' hl' => ?_) (fun hn => absurd (show _ ∧ _ from ⟨by omega, by omega⟩) hn)))
    have e : k' = k := by omega
    subst e
    exact rd0 h (iI_wp _).symm
  · rw [pvw]
    exact tok (by decide) (to_m (by decide) (m_speechesOf ha (iR h) (iS h) (iC h) (fun k' hk' hl' => absurd (show _ ∧ _ from ⟨by omega, by omega⟩) hn) (fun _ => rdk h (by decide))))
theorem T_chairOf {μ : Mem} {a : Int} (h : INV μ) (ha : rng a) : Tw anyI mL_chairOf mX11_chairOf [.int (iI a)] μ := by
  refine to_w (d := 8) (by decide) (by decide) (by decide) (W_chairOf (to_c (g_chairOf ha (iS h) (iC h) (fun k hk hl => ?_) (fun hn => ⟨rfl, ?_⟩))))
  · rw [pvw]
    refine vok (to_m (by decide) (m_chairOf ha (iR9 h) (iS h) (iC h) (fun k' hk' hl' => ?_) (fun hn => absurd (show _ ∧ _ from ⟨by omega, by omega⟩) hn)))
    have e : k' = k := by omega
    subst e
    exact rd0 h (iI_wp _).symm
  · rw [pvw]
    exact tok (by decide) (to_m (by decide) (m_chairOf ha (iR h) (iS h) (iC h) (fun k' hk' hl' => absurd (show _ ∧ _ from ⟨by omega, by omega⟩) hn) (fun _ => rdk h (by decide))))
theorem T_placeInList {μ : Mem} {a : Int} (h : INV μ) (ha : rng a) : Tw anyI mL_placeInList mX11_placeInList [.int (iI a)] μ := by
  refine to_w (d := 8) (by decide) (by decide) (by decide) (W_placeInList (to_c (g_placeInList ha (iS h) (iC h) (fun k hk hl => ?_) (fun hn => ⟨rfl, ?_⟩))))
  · rw [pvw]
    refine vok (to_m (by decide) (m_placeInList ha (iR9 h) (iS h) (iC h) (fun k' hk' hl' => ?_) (fun hn => absurd (show _ ∧ _ from ⟨by omega, by omega⟩) hn)))
    have e : k' = k := by omega
    subst e
    exact rd0 h (iI_wp _).symm
  · rw [pvw]
    exact tok (by decide) (to_m (by decide) (m_placeInList ha (iR h) (iS h) (iC h) (fun k' hk' hl' => absurd (show _ ∧ _ from ⟨by omega, by omega⟩) hn) (fun _ => rdk h (by decide))))
theorem T_proposer {μ : Mem} {a : Int} (h : INV μ) (ha : rng a) : Tw anyI mL_proposer mX11_proposer [.int (iI a)] μ := by
  refine to_w (d := 8) (by decide) (by decide) (by decide) (W_proposer (to_c (g_proposer ha (iS h) (iC h) (fun k hk hl => ?_) (fun hn => ⟨rfl, ?_⟩))))
  · rw [pvw]
    refine vok (to_m (by decide) (m_proposer ha (iR9 h) (iS h) (iC h) (fun k' hk' hl' => ?_) (fun hn => absurd (show _ ∧ _ from ⟨by omega, by omega⟩) hn)))
    have e : k' = k := by omega
    subst e
    exact rd0 h (iI_wp _).symm
  · rw [pvw]
    exact tok (by decide) (to_m (by decide) (m_proposer ha (iR h) (iS h) (iC h) (fun k' hk' hl' => absurd (show _ ∧ _ from ⟨by omega, by omega⟩) hn) (fun _ => rdk h (by decide))))
theorem T_motionState {μ : Mem} {a : Int} (h : INV μ) (ha : rng a) : Tw anyI mL_motionState mX11_motionState [.int (iI a)] μ := by
  refine to_w (d := 8) (by decide) (by decide) (by decide) (W_motionState (to_c (g_motionState ha (iS h) (iC h) (fun k hk hl => ?_) (fun hn => ⟨rfl, ?_⟩))))
  · rw [pvw]
    refine vok (to_m (by decide) (m_motionState ha (iR9 h) (iS h) (iC h) (fun k' hk' hl' => ?_) (fun hn => absurd (show _ ∧ _ from ⟨by omega, by omega⟩) hn)))
    have e : k' = k := by omega
    subst e
    exact rd0 h (iI_wp _).symm
  · rw [pvw]
    exact tok (by decide) (to_m (by decide) (m_motionState ha (iR h) (iS h) (iC h) (fun k' hk' hl' => absurd (show _ ∧ _ from ⟨by omega, by omega⟩) hn) (fun _ => rdk h (by decide))))
theorem T_lather {μ : Mem} {a : Int} (h : INV μ) (ha : rng a) : Tw anyI mL_lather mX11_lather [.int (iI a)] μ := by
  refine to_w (d := 8) (by decide) (by decide) (by decide) (W_lather (to_c (g_lather ha (iS h) (iC h) (fun k hk hl => ?_) (fun hn => ⟨rfl, ?_⟩))))
  · rw [pvw]
    refine vok (to_m (by decide) (m_lather ha (iR9 h) (iS h) (iC h) (fun k' hk' hl' => ?_) (fun hn => absurd (show _ ∧ _ from ⟨by omega, by omega⟩) hn)))
    have e : k' = k := by omega
    subst e
    exact rd0 h (iI_wp _).symm
  · rw [pvw]
    exact tok (by decide) (to_m (by decide) (m_lather ha (iR h) (iS h) (iC h) (fun k' hk' hl' => absurd (show _ ∧ _ from ⟨by omega, by omega⟩) hn) (fun _ => rdk h (by decide))))
theorem T_weightFor {μ : Mem} {a : Int} (h : INV μ) (ha : rng a) : Tw anyI mL_weightFor mX11_weightFor [.int (iI a)] μ := by
  refine to_w (d := 8) (by decide) (by decide) (by decide) (W_weightFor (to_c (g_weightFor ha (iS h) (iC h) (fun k hk hl => ?_) (fun hn => ⟨rfl, ?_⟩))))
  · rw [pvw]
    refine vok (to_m (by decide) (m_weightFor ha (iR9 h) (iS h) (iC h) (fun k' hk' hl' => ?_) (fun hn => absurd (show _ ∧ _ from ⟨by omega, by omega⟩) hn)))
    have e : k' = k := by omega
    subst e
    exact rd0 h (iI_wp _).symm
  · rw [pvw]
    exact tok (by decide) (to_m (by decide) (m_weightFor ha (iR h) (iS h) (iC h) (fun k' hk' hl' => absurd (show _ ∧ _ from ⟨by omega, by omega⟩) hn) (fun _ => rdk h (by decide))))
theorem T_weightAgainst {μ : Mem} {a : Int} (h : INV μ) (ha : rng a) : Tw anyI mL_weightAgainst mX11_weightAgainst [.int (iI a)] μ := by
  refine to_w (d := 8) (by decide) (by decide) (by decide) (W_weightAgainst (to_c (g_weightAgainst ha (iS h) (iC h) (fun k hk hl => ?_) (fun hn => ⟨rfl, ?_⟩))))
  · rw [pvw]
    refine vok (to_m (by decide) (m_weightAgainst ha (iR9 h) (iS h) (iC h) (fun k' hk' hl' => ?_) (fun hn => absurd (show _ ∧ _ from ⟨by omega, by omega⟩) hn)))
    have e : k' = k := by omega
    subst e
    exact rd0 h (iI_wp _).symm
  · rw [pvw]
    exact tok (by decide) (to_m (by decide) (m_weightAgainst ha (iR h) (iS h) (iC h) (fun k' hk' hl' => absurd (show _ ∧ _ from ⟨by omega, by omega⟩) hn) (fun _ => rdk h (by decide))))
theorem T_voterCount {μ : Mem} {a : Int} (h : INV μ) (ha : rng a) : Tw anyI mL_voterCount mX11_voterCount [.int (iI a)] μ := by
  refine to_w (d := 8) (by decide) (by decide) (by decide) (W_voterCount (to_c (g_voterCount ha (iS h) (iC h) (fun k hk hl => ?_) (fun hn => ⟨rfl, ?_⟩))))
  · rw [pvw]
    refine vok (to_m (by decide) (m_voterCount ha (iR9 h) (iS h) (iC h) (fun k' hk' hl' => ?_) (fun hn => absurd (show _ ∧ _ from ⟨by omega, by omega⟩) hn)))
    have e : k' = k := by omega
    subst e
    exact rd0 h (iI_wp _).symm
  · rw [pvw]
    exact tok (by decide) (to_m (by decide) (m_voterCount ha (iR h) (iS h) (iC h) (fun k' hk' hl' => absurd (show _ ∧ _ from ⟨by omega, by omega⟩) hn) (fun _ => rdk h (by decide))))
theorem T_obstacle {μ : Mem} {a : Int} (h : INV μ) (ha : rng a) : Tw anyI mL_obstacle mX11_obstacle [.int (iI a)] μ := by
  refine to_w (d := 8) (by decide) (by decide) (by decide) (W_obstacle (to_c (g_obstacle ha (iS h) (iC h) (fun k hk hl => ?_) (fun hn => ⟨rfl, ?_⟩))))
  · rw [pvw]
    refine vok (to_m (by decide) (m_obstacle ha (iR9 h) (iS h) (iC h) (fun k' hk' hl' => ?_) (fun hn => absurd (show _ ∧ _ from ⟨by omega, by omega⟩) hn)))
    have e : k' = k := by omega
    subst e
    exact rd0 h (by rw [iI_wp, obo_obs hl])
  · rw [pvw]
    exact tok (by decide) (to_m (by decide) (m_obstacle ha (iR h) (iS h) (iC h) (fun k' hk' hl' => absurd (show _ ∧ _ from ⟨by omega, by omega⟩) hn) (fun _ => rdk h (by decide))))
theorem T_decisiveVoter {μ : Mem} {a : Int} (h : INV μ) (ha : rng a) : Tw anyI mL_decisiveVoter mX11_decisiveVoter [.int (iI a)] μ := by
  refine to_w (d := 8) (by decide) (by decide) (by decide) (W_decisiveVoter (to_c (g_decisiveVoter ha (iS h) (iC h) (fun k hk hl => ?_) (fun hn => ⟨rfl, ?_⟩))))
  · rw [pvw]
    refine vok (to_m (by decide) (m_decisiveVoter ha (iR9 h) (iS h) (iC h) (fun k' hk' hl' => ?_) (fun hn => absurd (show _ ∧ _ from ⟨by omega, by omega⟩) hn)))
    have e : k' = k := by omega
    subst e
    exact rd0 h (iI_wp _).symm
  · rw [pvw]
    exact tok (by decide) (to_m (by decide) (m_decisiveVoter ha (iR h) (iS h) (iC h) (fun k' hk' hl' => absurd (show _ ∧ _ from ⟨by omega, by omega⟩) hn) (fun _ => rdk h (by decide))))
theorem T_speaker {μ : Mem} {a : Int} (h : INV μ) (ha : rng a) : Tw anyI mL_speaker mX11_speaker [.int (iI a)] μ := by
  refine to_w (d := 8) (by decide) (by decide) (by decide) (W_speaker (to_c (g_speaker ha (iS h) (iC h) (fun k hk hl => ?_) (fun hn => ⟨rfl, ?_⟩))))
  · rw [pvw]
    refine vok (to_m (by decide) (m_speaker ha (iR9 h) (iS h) (iC h) (fun k' hk' hl' => ?_) (fun hn => absurd (show _ ∧ _ from ⟨by omega, by omega⟩) hn)))
    have e : k' = k := by omega
    subst e
    exact rd0 h (iI_wp _).symm
  · rw [pvw]
    exact tok (by decide) (to_m (by decide) (m_speaker ha (iR h) (iS h) (iC h) (fun k' hk' hl' => absurd (show _ ∧ _ from ⟨by omega, by omega⟩) hn) (fun _ => rdk h (by decide))))
theorem T_remainingTime {μ : Mem} {a : Int} (h : INV μ) (ha : rng a) : Tw anyI mL_remainingTime mX11_remainingTime [.int (iI a)] μ := by
  refine to_w (d := 8) (by decide) (by decide) (by decide) (W_remainingTime (to_c (g_remainingTime ha (iS h) (iC h) (fun k hk hl => ?_) (fun hn => ⟨rfl, ?_⟩))))
  · rw [pvw]
    refine vok (to_m (by decide) (m_remainingTime ha (iR9 h) (iS h) (iC h) (fun k' hk' hl' => ?_) (fun hn => absurd (show _ ∧ _ from ⟨by omega, by omega⟩) hn)))
    have e : k' = k := by omega
    subst e
    exact rd0 h (iI_wp _).symm
  · rw [pvw]
    exact tok (by decide) (to_m (by decide) (m_remainingTime ha (iR h) (iS h) (iC h) (fun k' hk' hl' => absurd (show _ ∧ _ from ⟨by omega, by omega⟩) hn) (fun _ => rdk h (by decide))))
theorem T_isRebutted {μ : Mem} {a : Int} (h : INV μ) (ha : rng a) : Tw b01 mL_isRebutted mX11_isRebutted [.int (iI a)] μ := by
  refine to_w (d := 8) (by decide) (by decide) (by decide) (W_isRebutted (to_c (g_isRebutted ha (iS h) (iC h) (fun k hk hl => ?_) (fun hn => ⟨rfl, ?_⟩))))
  · rw [pvw]
    refine vok2 (bI_01 _) (to_m (by decide) (m_isRebutted ha (iR9 h) (iS h) (iC h) (fun k' hk' hl' => ?_) (fun hn => absurd (show _ ∧ _ from ⟨by omega, by omega⟩) hn)))
    have e : k' = k := by omega
    subst e
    exact rd0 h rfl
  · rw [pvw]
    exact tok (by decide) (to_m (by decide) (m_isRebutted ha (iR h) (iS h) (iC h) (fun k' hk' hl' => absurd (show _ ∧ _ from ⟨by omega, by omega⟩) hn) (fun _ => rdk h (by decide))))
theorem T_wouldPass {μ : Mem} {a : Int} (h : INV μ) (ha : rng a) : Tw b01 mL_wouldPass mX11_wouldPass [.int (iI a)] μ := by
  refine to_w (d := 8) (by decide) (by decide) (by decide) (W_wouldPass (to_c (g_wouldPass ha (iS h) (iC h) (fun k hk hl => ?_) (fun hn => ⟨rfl, ?_⟩))))
  · rw [pvw]
    refine vok2 (bI_01 _) (to_m (by decide) (m_wouldPass ha (iR9 h) (iS h) (iC h) (fun k' hk' hl' => ?_) (fun hn => absurd (show _ ∧ _ from ⟨by omega, by omega⟩) hn)))
    have e : k' = k := by omega
    subst e
    exact rd0 h rfl
  · rw [pvw]
    exact tok (by decide) (to_m (by decide) (m_wouldPass ha (iR h) (iS h) (iC h) (fun k' hk' hl' => absurd (show _ ∧ _ from ⟨by omega, by omega⟩) hn) (fun _ => rdk h (by decide))))
theorem T_speechMotion {μ : Mem} {a : Int} (h : INV μ) (ha : rng a) : Tw anyI mL_speechMotion mX11_speechMotion [.int (iI a)] μ := by
  refine to_w (d := 8) (by decide) (by decide) (by decide) (W_speechMotion (to_c (g_speechMotion ha (iS h) (iC h) (fun k hk hl ho => ?_) (fun hn => Or.inl ⟨rfl, ?_⟩) (fun k hk hl ho => Or.inr ⟨rfl, ?_⟩))))
  · rw [pvw]
    refine vok (to_m (by decide) (m_speechMotion ha (iR9 h) (iS h) (iC h) (fun k' hk' hl' ho' => ?_) (fun hn => absurd (show _ ∧ _ from ⟨by omega, by omega⟩) hn) (fun k' hk' hl' ho' => ?_)))
    · have e : k' = k := by omega
      subst e
      exact rd0 h (iI_wp _).symm
    · have e : k' = k := by omega
      subst e
      exact absurd ho' ho
  · rw [pvw]
    exact tok (by decide) (to_m (by decide) (m_speechMotion ha (iR h) (iS h) (iC h) (fun k' hk' hl' _ => absurd (show _ ∧ _ from ⟨by omega, by omega⟩) hn) (fun _ => rdk h (by decide)) (fun k' hk' hl' _ => absurd (show _ ∧ _ from ⟨by omega, by omega⟩) hn)))
  · rw [pvw]
    refine tok (by decide) (to_m (by decide) (m_speechMotion ha (iR h) (iS h) (iC h) (fun k' hk' hl' ho' => ?_) (fun hn => absurd (show _ ∧ _ from ⟨by omega, by omega⟩) hn) (fun _ _ _ _ => rdk h (by decide))))
    have e : k' = k := by omega
    subst e
    exact absurd ho ho'
theorem T_leaning {μ : Mem} {a b : Int} (h : INV μ) (ha : rng a) (hb : rng b) : Tw anyI mL_leaning mX11_leaning [.int (iI a), .int (iI b)] μ := by
  refine to_w (d := 8) (by decide) (by decide) (by decide) (W_leaning (to_c (g_leaning ha hb (iS h) (iC h) (fun k j hk hj hl hl2 => ?_) (fun hn => ⟨rfl, ?_⟩))))
  · rw [pvw]
    refine vok (to_m (by decide) (m_leaning ha hb (iR9 h) (iS h) (iC h) (fun k' j' hk' hj' _ _ => ?_) (fun hn => absurd (show (_ ∧ _) ∧ (_ ∧ _) from ⟨⟨by omega, by omega⟩, ⟨by omega, by omega⟩⟩) hn)))
    have e : k' = k := by omega
    have e2 : j' = j := by omega
    subst e e2
    exact rd0 h (iI_wp _).symm
  · rw [pvw]
    exact tok (by decide) (to_m (by decide) (m_leaning ha hb (iR h) (iS h) (iC h) (fun k' j' hk' hj' hl1 hl2 => absurd (show (_ ∧ _) ∧ (_ ∧ _) from ⟨⟨by omega, by omega⟩, ⟨by omega, by omega⟩⟩) hn) (fun _ => rdk h (by decide))))
theorem T_firstBy {μ : Mem} {a : Int} (h : INV μ) (ha : rng a) : Tw anyI mL_firstBy mX11_firstBy [.int (iI a)] μ := by
  refine to_w (d := 8) (by decide) (by decide) (by decide) (W_firstBy (to_c (g_firstBy ha (iS h) (iC h) (fun hk => ?_) (fun hn => ⟨rfl, ?_⟩))))
  · rw [pvw]
    exact vok (to_m (by decide) (m_firstBy ha (iR9 h) (iS h) (iC h) (fun _ => rd0 h (iI_wp _).symm) (fun hn => absurd hk hn)))
  · rw [pvw]
    exact tok (by decide) (to_m (by decide) (m_firstBy ha (iR h) (iS h) (iC h) (fun hk => absurd hk hn) (fun _ => rdk h (by decide))))
