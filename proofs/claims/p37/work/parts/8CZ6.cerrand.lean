theorem n8_X4_fillOil (l0 : Launch) {Ia Ja : aI1} {Ra : aR1} {Sa : aS1} (hL : LY Ra Sa) (hI : XI Ia) (hF : FRk Ia Ja)  : CT l0 1 0 0 mX4_fillOil [kR (some 18)] Ia Ja Ra Sa (cV (fun I' J' => Kp 18 31 Ia I' ∧ Kp 18 31 Ja J' ∧ FRk I' J' ∧ OT I') Ra Sa) :=
  CT_wV (c8_X4_fillOil l0 hL hI hF) (fun I' J' h => ⟨Kp_wd h.1 (by decide) (by decide), h.2.1 ▸ Kp_rf, h.2.1 ▸ h.2.2.1, h.2.2.2⟩)
