theorem in_X1_init : ∀ w ∈ wsX10, w ∈ wsX1_init := fun w h => by first | exact List.mem_cons_of_mem _ (List.mem_append_right _ h) | exact List.mem_cons_of_mem _ (List.mem_append_left _ (List.mem_append_right _ h)) | exact List.mem_cons_of_mem _ (List.mem_append_left _ (List.mem_append_left _ (List.mem_append_right _ h))) | exact List.mem_cons_of_mem _ (List.mem_append_left _ (List.mem_append_left _ (List.mem_append_left _ (List.mem_append_right _ h)))) | exact List.mem_cons_of_mem _ (List.mem_append_left _ (List.mem_append_left _ (List.mem_append_left _ (List.mem_append_left _ (List.mem_append_right _ h))))) | exact List.mem_cons_of_mem _ (List.mem_append_left _ (List.mem_append_left _ (List.mem_append_left _ (List.mem_append_left _ (List.mem_append_left _ (List.mem_append_right _ h)))))) | exact List.mem_cons_of_mem _ (List.mem_append_left _ (List.mem_append_left _ (List.mem_append_left _ (List.mem_append_left _ (List.mem_append_left _ (List.mem_append_left _ (List.mem_append_right _ h))))))) | exact List.mem_cons_of_mem _ (List.mem_append_left _ (List.mem_append_left _ (List.mem_append_left _ (List.mem_append_left _ (List.mem_append_left _ (List.mem_append_left _ (List.mem_append_left _ (List.mem_append_right _ h))))))))
theorem in_X1_fails : ∀ w ∈ wsX10, w ∈ wsX1_fails := fun w h => by first | exact List.mem_cons_of_mem _ (List.mem_append_right _ h) | exact List.mem_cons_of_mem _ (List.mem_append_left _ (List.mem_append_right _ h)) | exact List.mem_cons_of_mem _ (List.mem_append_left _ (List.mem_append_left _ (List.mem_append_right _ h))) | exact List.mem_cons_of_mem _ (List.mem_append_left _ (List.mem_append_left _ (List.mem_append_left _ (List.mem_append_right _ h)))) | exact List.mem_cons_of_mem _ (List.mem_append_left _ (List.mem_append_left _ (List.mem_append_left _ (List.mem_append_left _ (List.mem_append_right _ h))))) | exact List.mem_cons_of_mem _ (List.mem_append_left _ (List.mem_append_left _ (List.mem_append_left _ (List.mem_append_left _ (List.mem_append_left _ (List.mem_append_right _ h)))))) | exact List.mem_cons_of_mem _ (List.mem_append_left _ (List.mem_append_left _ (List.mem_append_left _ (List.mem_append_left _ (List.mem_append_left _ (List.mem_append_left _ (List.mem_append_right _ h))))))) | exact List.mem_cons_of_mem _ (List.mem_append_left _ (List.mem_append_left _ (List.mem_append_left _ (List.mem_append_left _ (List.mem_append_left _ (List.mem_append_left _ (List.mem_append_left _ (List.mem_append_right _ h))))))))
theorem in_X1_isPurpose : ∀ w ∈ wsX10, w ∈ wsX1_isPurpose := fun w h => by first | exact List.mem_cons_of_mem _ (List.mem_append_right _ h) | exact List.mem_cons_of_mem _ (List.mem_append_left _ (List.mem_append_right _ h)) | exact List.mem_cons_of_mem _ (List.mem_append_left _ (List.mem_append_left _ (List.mem_append_right _ h))) | exact List.mem_cons_of_mem _ (List.mem_append_left _ (List.mem_append_left _ (List.mem_append_left _ (List.mem_append_right _ h)))) | exact List.mem_cons_of_mem _ (List.mem_append_left _ (List.mem_append_left _ (List.mem_append_left _ (List.mem_append_left _ (List.mem_append_right _ h))))) | exact List.mem_cons_of_mem _ (List.mem_append_left _ (List.mem_append_left _ (List.mem_append_left _ (List.mem_append_left _ (List.mem_append_left _ (List.mem_append_right _ h)))))) | exact List.mem_cons_of_mem _ (List.mem_append_left _ (List.mem_append_left _ (List.mem_append_left _ (List.mem_append_left _ (List.mem_append_left _ (List.mem_append_left _ (List.mem_append_right _ h))))))) | exact List.mem_cons_of_mem _ (List.mem_append_left _ (List.mem_append_left _ (List.mem_append_left _ (List.mem_append_left _ (List.mem_append_left _ (List.mem_append_left _ (List.mem_append_left _ (List.mem_append_right _ h))))))))
theorem in_X1_isRecord : ∀ w ∈ wsX10, w ∈ wsX1_isRecord := fun w h => by first | exact List.mem_cons_of_mem _ (List.mem_append_right _ h) | exact List.mem_cons_of_mem _ (List.mem_append_left _ (List.mem_append_right _ h)) | exact List.mem_cons_of_mem _ (List.mem_append_left _ (List.mem_append_left _ (List.mem_append_right _ h))) | exact List.mem_cons_of_mem _ (List.mem_append_left _ (List.mem_append_left _ (List.mem_append_left _ (List.mem_append_right _ h)))) | exact List.mem_cons_of_mem _ (List.mem_append_left _ (List.mem_append_left _ (List.mem_append_left _ (List.mem_append_left _ (List.mem_append_right _ h))))) | exact List.mem_cons_of_mem _ (List.mem_append_left _ (List.mem_append_left _ (List.mem_append_left _ (List.mem_append_left _ (List.mem_append_left _ (List.mem_append_right _ h)))))) | exact List.mem_cons_of_mem _ (List.mem_append_left _ (List.mem_append_left _ (List.mem_append_left _ (List.mem_append_left _ (List.mem_append_left _ (List.mem_append_left _ (List.mem_append_right _ h))))))) | exact List.mem_cons_of_mem _ (List.mem_append_left _ (List.mem_append_left _ (List.mem_append_left _ (List.mem_append_left _ (List.mem_append_left _ (List.mem_append_left _ (List.mem_append_left _ (List.mem_append_right _ h))))))))
theorem in_X1_isSet : ∀ w ∈ wsX10, w ∈ wsX1_isSet := fun w h => by first | exact List.mem_cons_of_mem _ (List.mem_append_right _ h) | exact List.mem_cons_of_mem _ (List.mem_append_left _ (List.mem_append_right _ h)) | exact List.mem_cons_of_mem _ (List.mem_append_left _ (List.mem_append_left _ (List.mem_append_right _ h))) | exact List.mem_cons_of_mem _ (List.mem_append_left _ (List.mem_append_left _ (List.mem_append_left _ (List.mem_append_right _ h)))) | exact List.mem_cons_of_mem _ (List.mem_append_left _ (List.mem_append_left _ (List.mem_append_left _ (List.mem_append_left _ (List.mem_append_right _ h))))) | exact List.mem_cons_of_mem _ (List.mem_append_left _ (List.mem_append_left _ (List.mem_append_left _ (List.mem_append_left _ (List.mem_append_left _ (List.mem_append_right _ h)))))) | exact List.mem_cons_of_mem _ (List.mem_append_left _ (List.mem_append_left _ (List.mem_append_left _ (List.mem_append_left _ (List.mem_append_left _ (List.mem_append_left _ (List.mem_append_right _ h))))))) | exact List.mem_cons_of_mem _ (List.mem_append_left _ (List.mem_append_left _ (List.mem_append_left _ (List.mem_append_left _ (List.mem_append_left _ (List.mem_append_left _ (List.mem_append_left _ (List.mem_append_right _ h))))))))
theorem in_X1_addPurpose : ∀ w ∈ wsX10, w ∈ wsX1_addPurpose := fun w h => by first | exact List.mem_cons_of_mem _ (List.mem_append_right _ h) | exact List.mem_cons_of_mem _ (List.mem_append_left _ (List.mem_append_right _ h)) | exact List.mem_cons_of_mem _ (List.mem_append_left _ (List.mem_append_left _ (List.mem_append_right _ h))) | exact List.mem_cons_of_mem _ (List.mem_append_left _ (List.mem_append_left _ (List.mem_append_left _ (List.mem_append_right _ h)))) | exact List.mem_cons_of_mem _ (List.mem_append_left _ (List.mem_append_left _ (List.mem_append_left _ (List.mem_append_left _ (List.mem_append_right _ h))))) | exact List.mem_cons_of_mem _ (List.mem_append_left _ (List.mem_append_left _ (List.mem_append_left _ (List.mem_append_left _ (List.mem_append_left _ (List.mem_append_right _ h)))))) | exact List.mem_cons_of_mem _ (List.mem_append_left _ (List.mem_append_left _ (List.mem_append_left _ (List.mem_append_left _ (List.mem_append_left _ (List.mem_append_left _ (List.mem_append_right _ h))))))) | exact List.mem_cons_of_mem _ (List.mem_append_left _ (List.mem_append_left _ (List.mem_append_left _ (List.mem_append_left _ (List.mem_append_left _ (List.mem_append_left _ (List.mem_append_left _ (List.mem_append_right _ h))))))))
theorem in_X1_setRetention : ∀ w ∈ wsX10, w ∈ wsX1_setRetention := fun w h => by first | exact List.mem_cons_of_mem _ (List.mem_append_right _ h) | exact List.mem_cons_of_mem _ (List.mem_append_left _ (List.mem_append_right _ h)) | exact List.mem_cons_of_mem _ (List.mem_append_left _ (List.mem_append_left _ (List.mem_append_right _ h))) | exact List.mem_cons_of_mem _ (List.mem_append_left _ (List.mem_append_left _ (List.mem_append_left _ (List.mem_append_right _ h)))) | exact List.mem_cons_of_mem _ (List.mem_append_left _ (List.mem_append_left _ (List.mem_append_left _ (List.mem_append_left _ (List.mem_append_right _ h))))) | exact List.mem_cons_of_mem _ (List.mem_append_left _ (List.mem_append_left _ (List.mem_append_left _ (List.mem_append_left _ (List.mem_append_left _ (List.mem_append_right _ h)))))) | exact List.mem_cons_of_mem _ (List.mem_append_left _ (List.mem_append_left _ (List.mem_append_left _ (List.mem_append_left _ (List.mem_append_left _ (List.mem_append_left _ (List.mem_append_right _ h))))))) | exact List.mem_cons_of_mem _ (List.mem_append_left _ (List.mem_append_left _ (List.mem_append_left _ (List.mem_append_left _ (List.mem_append_left _ (List.mem_append_left _ (List.mem_append_left _ (List.mem_append_right _ h))))))))
theorem in_X1_consent : ∀ w ∈ wsX10, w ∈ wsX1_consent := fun w h => by first | exact List.mem_cons_of_mem _ (List.mem_append_right _ h) | exact List.mem_cons_of_mem _ (List.mem_append_left _ (List.mem_append_right _ h)) | exact List.mem_cons_of_mem _ (List.mem_append_left _ (List.mem_append_left _ (List.mem_append_right _ h))) | exact List.mem_cons_of_mem _ (List.mem_append_left _ (List.mem_append_left _ (List.mem_append_left _ (List.mem_append_right _ h)))) | exact List.mem_cons_of_mem _ (List.mem_append_left _ (List.mem_append_left _ (List.mem_append_left _ (List.mem_append_left _ (List.mem_append_right _ h))))) | exact List.mem_cons_of_mem _ (List.mem_append_left _ (List.mem_append_left _ (List.mem_append_left _ (List.mem_append_left _ (List.mem_append_left _ (List.mem_append_right _ h)))))) | exact List.mem_cons_of_mem _ (List.mem_append_left _ (List.mem_append_left _ (List.mem_append_left _ (List.mem_append_left _ (List.mem_append_left _ (List.mem_append_left _ (List.mem_append_right _ h))))))) | exact List.mem_cons_of_mem _ (List.mem_append_left _ (List.mem_append_left _ (List.mem_append_left _ (List.mem_append_left _ (List.mem_append_left _ (List.mem_append_left _ (List.mem_append_left _ (List.mem_append_right _ h))))))))
theorem in_X1_consents : ∀ w ∈ wsX10, w ∈ wsX1_consents := fun w h => by first | exact List.mem_cons_of_mem _ (List.mem_append_right _ h) | exact List.mem_cons_of_mem _ (List.mem_append_left _ (List.mem_append_right _ h)) | exact List.mem_cons_of_mem _ (List.mem_append_left _ (List.mem_append_left _ (List.mem_append_right _ h))) | exact List.mem_cons_of_mem _ (List.mem_append_left _ (List.mem_append_left _ (List.mem_append_left _ (List.mem_append_right _ h)))) | exact List.mem_cons_of_mem _ (List.mem_append_left _ (List.mem_append_left _ (List.mem_append_left _ (List.mem_append_left _ (List.mem_append_right _ h))))) | exact List.mem_cons_of_mem _ (List.mem_append_left _ (List.mem_append_left _ (List.mem_append_left _ (List.mem_append_left _ (List.mem_append_left _ (List.mem_append_right _ h)))))) | exact List.mem_cons_of_mem _ (List.mem_append_left _ (List.mem_append_left _ (List.mem_append_left _ (List.mem_append_left _ (List.mem_append_left _ (List.mem_append_left _ (List.mem_append_right _ h))))))) | exact List.mem_cons_of_mem _ (List.mem_append_left _ (List.mem_append_left _ (List.mem_append_left _ (List.mem_append_left _ (List.mem_append_left _ (List.mem_append_left _ (List.mem_append_left _ (List.mem_append_right _ h))))))))
theorem in_X1_daysWithConsent : ∀ w ∈ wsX10, w ∈ wsX1_daysWithConsent := fun w h => by first | exact List.mem_cons_of_mem _ (List.mem_append_right _ h) | exact List.mem_cons_of_mem _ (List.mem_append_left _ (List.mem_append_right _ h)) | exact List.mem_cons_of_mem _ (List.mem_append_left _ (List.mem_append_left _ (List.mem_append_right _ h))) | exact List.mem_cons_of_mem _ (List.mem_append_left _ (List.mem_append_left _ (List.mem_append_left _ (List.mem_append_right _ h)))) | exact List.mem_cons_of_mem _ (List.mem_append_left _ (List.mem_append_left _ (List.mem_append_left _ (List.mem_append_left _ (List.mem_append_right _ h))))) | exact List.mem_cons_of_mem _ (List.mem_append_left _ (List.mem_append_left _ (List.mem_append_left _ (List.mem_append_left _ (List.mem_append_left _ (List.mem_append_right _ h)))))) | exact List.mem_cons_of_mem _ (List.mem_append_left _ (List.mem_append_left _ (List.mem_append_left _ (List.mem_append_left _ (List.mem_append_left _ (List.mem_append_left _ (List.mem_append_right _ h))))))) | exact List.mem_cons_of_mem _ (List.mem_append_left _ (List.mem_append_left _ (List.mem_append_left _ (List.mem_append_left _ (List.mem_append_left _ (List.mem_append_left _ (List.mem_append_left _ (List.mem_append_right _ h))))))))
theorem in_X1_subjects : ∀ w ∈ wsX10, w ∈ wsX1_subjects := fun w h => by first | exact List.mem_cons_of_mem _ (List.mem_append_right _ h) | exact List.mem_cons_of_mem _ (List.mem_append_left _ (List.mem_append_right _ h)) | exact List.mem_cons_of_mem _ (List.mem_append_left _ (List.mem_append_left _ (List.mem_append_right _ h))) | exact List.mem_cons_of_mem _ (List.mem_append_left _ (List.mem_append_left _ (List.mem_append_left _ (List.mem_append_right _ h)))) | exact List.mem_cons_of_mem _ (List.mem_append_left _ (List.mem_append_left _ (List.mem_append_left _ (List.mem_append_left _ (List.mem_append_right _ h))))) | exact List.mem_cons_of_mem _ (List.mem_append_left _ (List.mem_append_left _ (List.mem_append_left _ (List.mem_append_left _ (List.mem_append_left _ (List.mem_append_right _ h)))))) | exact List.mem_cons_of_mem _ (List.mem_append_left _ (List.mem_append_left _ (List.mem_append_left _ (List.mem_append_left _ (List.mem_append_left _ (List.mem_append_left _ (List.mem_append_right _ h))))))) | exact List.mem_cons_of_mem _ (List.mem_append_left _ (List.mem_append_left _ (List.mem_append_left _ (List.mem_append_left _ (List.mem_append_left _ (List.mem_append_left _ (List.mem_append_left _ (List.mem_append_right _ h))))))))
theorem in_X1_aboveOf : ∀ w ∈ wsX10, w ∈ wsX1_aboveOf := fun w h => by first | exact List.mem_cons_of_mem _ (List.mem_append_right _ h) | exact List.mem_cons_of_mem _ (List.mem_append_left _ (List.mem_append_right _ h)) | exact List.mem_cons_of_mem _ (List.mem_append_left _ (List.mem_append_left _ (List.mem_append_right _ h))) | exact List.mem_cons_of_mem _ (List.mem_append_left _ (List.mem_append_left _ (List.mem_append_left _ (List.mem_append_right _ h)))) | exact List.mem_cons_of_mem _ (List.mem_append_left _ (List.mem_append_left _ (List.mem_append_left _ (List.mem_append_left _ (List.mem_append_right _ h))))) | exact List.mem_cons_of_mem _ (List.mem_append_left _ (List.mem_append_left _ (List.mem_append_left _ (List.mem_append_left _ (List.mem_append_left _ (List.mem_append_right _ h)))))) | exact List.mem_cons_of_mem _ (List.mem_append_left _ (List.mem_append_left _ (List.mem_append_left _ (List.mem_append_left _ (List.mem_append_left _ (List.mem_append_left _ (List.mem_append_right _ h))))))) | exact List.mem_cons_of_mem _ (List.mem_append_left _ (List.mem_append_left _ (List.mem_append_left _ (List.mem_append_left _ (List.mem_append_left _ (List.mem_append_left _ (List.mem_append_left _ (List.mem_append_right _ h))))))))
theorem in_X1_belowOf : ∀ w ∈ wsX10, w ∈ wsX1_belowOf := fun w h => by first | exact List.mem_cons_of_mem _ (List.mem_append_right _ h) | exact List.mem_cons_of_mem _ (List.mem_append_left _ (List.mem_append_right _ h)) | exact List.mem_cons_of_mem _ (List.mem_append_left _ (List.mem_append_left _ (List.mem_append_right _ h))) | exact List.mem_cons_of_mem _ (List.mem_append_left _ (List.mem_append_left _ (List.mem_append_left _ (List.mem_append_right _ h)))) | exact List.mem_cons_of_mem _ (List.mem_append_left _ (List.mem_append_left _ (List.mem_append_left _ (List.mem_append_left _ (List.mem_append_right _ h))))) | exact List.mem_cons_of_mem _ (List.mem_append_left _ (List.mem_append_left _ (List.mem_append_left _ (List.mem_append_left _ (List.mem_append_left _ (List.mem_append_right _ h)))))) | exact List.mem_cons_of_mem _ (List.mem_append_left _ (List.mem_append_left _ (List.mem_append_left _ (List.mem_append_left _ (List.mem_append_left _ (List.mem_append_left _ (List.mem_append_right _ h))))))) | exact List.mem_cons_of_mem _ (List.mem_append_left _ (List.mem_append_left _ (List.mem_append_left _ (List.mem_append_left _ (List.mem_append_left _ (List.mem_append_left _ (List.mem_append_left _ (List.mem_append_right _ h))))))))
theorem in_X1_isAllowed : ∀ w ∈ wsX10, w ∈ wsX1_isAllowed := fun w h => by first | exact List.mem_cons_of_mem _ (List.mem_append_right _ h) | exact List.mem_cons_of_mem _ (List.mem_append_left _ (List.mem_append_right _ h)) | exact List.mem_cons_of_mem _ (List.mem_append_left _ (List.mem_append_left _ (List.mem_append_right _ h))) | exact List.mem_cons_of_mem _ (List.mem_append_left _ (List.mem_append_left _ (List.mem_append_left _ (List.mem_append_right _ h)))) | exact List.mem_cons_of_mem _ (List.mem_append_left _ (List.mem_append_left _ (List.mem_append_left _ (List.mem_append_left _ (List.mem_append_right _ h))))) | exact List.mem_cons_of_mem _ (List.mem_append_left _ (List.mem_append_left _ (List.mem_append_left _ (List.mem_append_left _ (List.mem_append_left _ (List.mem_append_right _ h)))))) | exact List.mem_cons_of_mem _ (List.mem_append_left _ (List.mem_append_left _ (List.mem_append_left _ (List.mem_append_left _ (List.mem_append_left _ (List.mem_append_left _ (List.mem_append_right _ h))))))) | exact List.mem_cons_of_mem _ (List.mem_append_left _ (List.mem_append_left _ (List.mem_append_left _ (List.mem_append_left _ (List.mem_append_left _ (List.mem_append_left _ (List.mem_append_left _ (List.mem_append_right _ h))))))))
theorem in_X1_endBy : ∀ w ∈ wsX10, w ∈ wsX1_endBy := fun w h => by first | exact List.mem_cons_of_mem _ (List.mem_append_right _ h) | exact List.mem_cons_of_mem _ (List.mem_append_left _ (List.mem_append_right _ h)) | exact List.mem_cons_of_mem _ (List.mem_append_left _ (List.mem_append_left _ (List.mem_append_right _ h))) | exact List.mem_cons_of_mem _ (List.mem_append_left _ (List.mem_append_left _ (List.mem_append_left _ (List.mem_append_right _ h)))) | exact List.mem_cons_of_mem _ (List.mem_append_left _ (List.mem_append_left _ (List.mem_append_left _ (List.mem_append_left _ (List.mem_append_right _ h))))) | exact List.mem_cons_of_mem _ (List.mem_append_left _ (List.mem_append_left _ (List.mem_append_left _ (List.mem_append_left _ (List.mem_append_left _ (List.mem_append_right _ h)))))) | exact List.mem_cons_of_mem _ (List.mem_append_left _ (List.mem_append_left _ (List.mem_append_left _ (List.mem_append_left _ (List.mem_append_left _ (List.mem_append_left _ (List.mem_append_right _ h))))))) | exact List.mem_cons_of_mem _ (List.mem_append_left _ (List.mem_append_left _ (List.mem_append_left _ (List.mem_append_left _ (List.mem_append_left _ (List.mem_append_left _ (List.mem_append_left _ (List.mem_append_right _ h))))))))
theorem in_X1_end : ∀ w ∈ wsX10, w ∈ wsX1_end := fun w h => by first | exact List.mem_cons_of_mem _ (List.mem_append_right _ h) | exact List.mem_cons_of_mem _ (List.mem_append_left _ (List.mem_append_right _ h)) | exact List.mem_cons_of_mem _ (List.mem_append_left _ (List.mem_append_left _ (List.mem_append_right _ h))) | exact List.mem_cons_of_mem _ (List.mem_append_left _ (List.mem_append_left _ (List.mem_append_left _ (List.mem_append_right _ h)))) | exact List.mem_cons_of_mem _ (List.mem_append_left _ (List.mem_append_left _ (List.mem_append_left _ (List.mem_append_left _ (List.mem_append_right _ h))))) | exact List.mem_cons_of_mem _ (List.mem_append_left _ (List.mem_append_left _ (List.mem_append_left _ (List.mem_append_left _ (List.mem_append_left _ (List.mem_append_right _ h)))))) | exact List.mem_cons_of_mem _ (List.mem_append_left _ (List.mem_append_left _ (List.mem_append_left _ (List.mem_append_left _ (List.mem_append_left _ (List.mem_append_left _ (List.mem_append_right _ h))))))) | exact List.mem_cons_of_mem _ (List.mem_append_left _ (List.mem_append_left _ (List.mem_append_left _ (List.mem_append_left _ (List.mem_append_left _ (List.mem_append_left _ (List.mem_append_left _ (List.mem_append_right _ h))))))))
theorem in_X1_lays : ∀ w ∈ wsX10, w ∈ wsX1_lays := fun w h => by first | exact List.mem_cons_of_mem _ (List.mem_append_right _ h) | exact List.mem_cons_of_mem _ (List.mem_append_left _ (List.mem_append_right _ h)) | exact List.mem_cons_of_mem _ (List.mem_append_left _ (List.mem_append_left _ (List.mem_append_right _ h))) | exact List.mem_cons_of_mem _ (List.mem_append_left _ (List.mem_append_left _ (List.mem_append_left _ (List.mem_append_right _ h)))) | exact List.mem_cons_of_mem _ (List.mem_append_left _ (List.mem_append_left _ (List.mem_append_left _ (List.mem_append_left _ (List.mem_append_right _ h))))) | exact List.mem_cons_of_mem _ (List.mem_append_left _ (List.mem_append_left _ (List.mem_append_left _ (List.mem_append_left _ (List.mem_append_left _ (List.mem_append_right _ h)))))) | exact List.mem_cons_of_mem _ (List.mem_append_left _ (List.mem_append_left _ (List.mem_append_left _ (List.mem_append_left _ (List.mem_append_left _ (List.mem_append_left _ (List.mem_append_right _ h))))))) | exact List.mem_cons_of_mem _ (List.mem_append_left _ (List.mem_append_left _ (List.mem_append_left _ (List.mem_append_left _ (List.mem_append_left _ (List.mem_append_left _ (List.mem_append_left _ (List.mem_append_right _ h))))))))
theorem in_X1_add : ∀ w ∈ wsX10, w ∈ wsX1_add := fun w h => by first | exact List.mem_cons_of_mem _ (List.mem_append_right _ h) | exact List.mem_cons_of_mem _ (List.mem_append_left _ (List.mem_append_right _ h)) | exact List.mem_cons_of_mem _ (List.mem_append_left _ (List.mem_append_left _ (List.mem_append_right _ h))) | exact List.mem_cons_of_mem _ (List.mem_append_left _ (List.mem_append_left _ (List.mem_append_left _ (List.mem_append_right _ h)))) | exact List.mem_cons_of_mem _ (List.mem_append_left _ (List.mem_append_left _ (List.mem_append_left _ (List.mem_append_left _ (List.mem_append_right _ h))))) | exact List.mem_cons_of_mem _ (List.mem_append_left _ (List.mem_append_left _ (List.mem_append_left _ (List.mem_append_left _ (List.mem_append_left _ (List.mem_append_right _ h)))))) | exact List.mem_cons_of_mem _ (List.mem_append_left _ (List.mem_append_left _ (List.mem_append_left _ (List.mem_append_left _ (List.mem_append_left _ (List.mem_append_left _ (List.mem_append_right _ h))))))) | exact List.mem_cons_of_mem _ (List.mem_append_left _ (List.mem_append_left _ (List.mem_append_left _ (List.mem_append_left _ (List.mem_append_left _ (List.mem_append_left _ (List.mem_append_left _ (List.mem_append_right _ h))))))))
theorem in_X1_derive : ∀ w ∈ wsX10, w ∈ wsX1_derive := fun w h => by first | exact List.mem_cons_of_mem _ (List.mem_append_right _ h) | exact List.mem_cons_of_mem _ (List.mem_append_left _ (List.mem_append_right _ h)) | exact List.mem_cons_of_mem _ (List.mem_append_left _ (List.mem_append_left _ (List.mem_append_right _ h))) | exact List.mem_cons_of_mem _ (List.mem_append_left _ (List.mem_append_left _ (List.mem_append_left _ (List.mem_append_right _ h)))) | exact List.mem_cons_of_mem _ (List.mem_append_left _ (List.mem_append_left _ (List.mem_append_left _ (List.mem_append_left _ (List.mem_append_right _ h))))) | exact List.mem_cons_of_mem _ (List.mem_append_left _ (List.mem_append_left _ (List.mem_append_left _ (List.mem_append_left _ (List.mem_append_left _ (List.mem_append_right _ h)))))) | exact List.mem_cons_of_mem _ (List.mem_append_left _ (List.mem_append_left _ (List.mem_append_left _ (List.mem_append_left _ (List.mem_append_left _ (List.mem_append_left _ (List.mem_append_right _ h))))))) | exact List.mem_cons_of_mem _ (List.mem_append_left _ (List.mem_append_left _ (List.mem_append_left _ (List.mem_append_left _ (List.mem_append_left _ (List.mem_append_left _ (List.mem_append_left _ (List.mem_append_right _ h))))))))
theorem in_X1_addSource : ∀ w ∈ wsX10, w ∈ wsX1_addSource := fun w h => by first | exact List.mem_cons_of_mem _ (List.mem_append_right _ h) | exact List.mem_cons_of_mem _ (List.mem_append_left _ (List.mem_append_right _ h)) | exact List.mem_cons_of_mem _ (List.mem_append_left _ (List.mem_append_left _ (List.mem_append_right _ h))) | exact List.mem_cons_of_mem _ (List.mem_append_left _ (List.mem_append_left _ (List.mem_append_left _ (List.mem_append_right _ h)))) | exact List.mem_cons_of_mem _ (List.mem_append_left _ (List.mem_append_left _ (List.mem_append_left _ (List.mem_append_left _ (List.mem_append_right _ h))))) | exact List.mem_cons_of_mem _ (List.mem_append_left _ (List.mem_append_left _ (List.mem_append_left _ (List.mem_append_left _ (List.mem_append_left _ (List.mem_append_right _ h)))))) | exact List.mem_cons_of_mem _ (List.mem_append_left _ (List.mem_append_left _ (List.mem_append_left _ (List.mem_append_left _ (List.mem_append_left _ (List.mem_append_left _ (List.mem_append_right _ h))))))) | exact List.mem_cons_of_mem _ (List.mem_append_left _ (List.mem_append_left _ (List.mem_append_left _ (List.mem_append_left _ (List.mem_append_left _ (List.mem_append_left _ (List.mem_append_left _ (List.mem_append_right _ h))))))))
theorem in_X1_records : ∀ w ∈ wsX10, w ∈ wsX1_records := fun w h => by first | exact List.mem_cons_of_mem _ (List.mem_append_right _ h) | exact List.mem_cons_of_mem _ (List.mem_append_left _ (List.mem_append_right _ h)) | exact List.mem_cons_of_mem _ (List.mem_append_left _ (List.mem_append_left _ (List.mem_append_right _ h))) | exact List.mem_cons_of_mem _ (List.mem_append_left _ (List.mem_append_left _ (List.mem_append_left _ (List.mem_append_right _ h)))) | exact List.mem_cons_of_mem _ (List.mem_append_left _ (List.mem_append_left _ (List.mem_append_left _ (List.mem_append_left _ (List.mem_append_right _ h))))) | exact List.mem_cons_of_mem _ (List.mem_append_left _ (List.mem_append_left _ (List.mem_append_left _ (List.mem_append_left _ (List.mem_append_left _ (List.mem_append_right _ h)))))) | exact List.mem_cons_of_mem _ (List.mem_append_left _ (List.mem_append_left _ (List.mem_append_left _ (List.mem_append_left _ (List.mem_append_left _ (List.mem_append_left _ (List.mem_append_right _ h))))))) | exact List.mem_cons_of_mem _ (List.mem_append_left _ (List.mem_append_left _ (List.mem_append_left _ (List.mem_append_left _ (List.mem_append_left _ (List.mem_append_left _ (List.mem_append_left _ (List.mem_append_right _ h))))))))
theorem in_X1_stateOf : ∀ w ∈ wsX10, w ∈ wsX1_stateOf := fun w h => by first | exact List.mem_cons_of_mem _ (List.mem_append_right _ h) | exact List.mem_cons_of_mem _ (List.mem_append_left _ (List.mem_append_right _ h)) | exact List.mem_cons_of_mem _ (List.mem_append_left _ (List.mem_append_left _ (List.mem_append_right _ h))) | exact List.mem_cons_of_mem _ (List.mem_append_left _ (List.mem_append_left _ (List.mem_append_left _ (List.mem_append_right _ h)))) | exact List.mem_cons_of_mem _ (List.mem_append_left _ (List.mem_append_left _ (List.mem_append_left _ (List.mem_append_left _ (List.mem_append_right _ h))))) | exact List.mem_cons_of_mem _ (List.mem_append_left _ (List.mem_append_left _ (List.mem_append_left _ (List.mem_append_left _ (List.mem_append_left _ (List.mem_append_right _ h)))))) | exact List.mem_cons_of_mem _ (List.mem_append_left _ (List.mem_append_left _ (List.mem_append_left _ (List.mem_append_left _ (List.mem_append_left _ (List.mem_append_left _ (List.mem_append_right _ h))))))) | exact List.mem_cons_of_mem _ (List.mem_append_left _ (List.mem_append_left _ (List.mem_append_left _ (List.mem_append_left _ (List.mem_append_left _ (List.mem_append_left _ (List.mem_append_left _ (List.mem_append_right _ h))))))))
theorem in_X1_subjectsOf : ∀ w ∈ wsX10, w ∈ wsX1_subjectsOf := fun w h => by first | exact List.mem_cons_of_mem _ (List.mem_append_right _ h) | exact List.mem_cons_of_mem _ (List.mem_append_left _ (List.mem_append_right _ h)) | exact List.mem_cons_of_mem _ (List.mem_append_left _ (List.mem_append_left _ (List.mem_append_right _ h))) | exact List.mem_cons_of_mem _ (List.mem_append_left _ (List.mem_append_left _ (List.mem_append_left _ (List.mem_append_right _ h)))) | exact List.mem_cons_of_mem _ (List.mem_append_left _ (List.mem_append_left _ (List.mem_append_left _ (List.mem_append_left _ (List.mem_append_right _ h))))) | exact List.mem_cons_of_mem _ (List.mem_append_left _ (List.mem_append_left _ (List.mem_append_left _ (List.mem_append_left _ (List.mem_append_left _ (List.mem_append_right _ h)))))) | exact List.mem_cons_of_mem _ (List.mem_append_left _ (List.mem_append_left _ (List.mem_append_left _ (List.mem_append_left _ (List.mem_append_left _ (List.mem_append_left _ (List.mem_append_right _ h))))))) | exact List.mem_cons_of_mem _ (List.mem_append_left _ (List.mem_append_left _ (List.mem_append_left _ (List.mem_append_left _ (List.mem_append_left _ (List.mem_append_left _ (List.mem_append_left _ (List.mem_append_right _ h))))))))
theorem in_X1_below : ∀ w ∈ wsX10, w ∈ wsX1_below := fun w h => by first | exact List.mem_cons_of_mem _ (List.mem_append_right _ h) | exact List.mem_cons_of_mem _ (List.mem_append_left _ (List.mem_append_right _ h)) | exact List.mem_cons_of_mem _ (List.mem_append_left _ (List.mem_append_left _ (List.mem_append_right _ h))) | exact List.mem_cons_of_mem _ (List.mem_append_left _ (List.mem_append_left _ (List.mem_append_left _ (List.mem_append_right _ h)))) | exact List.mem_cons_of_mem _ (List.mem_append_left _ (List.mem_append_left _ (List.mem_append_left _ (List.mem_append_left _ (List.mem_append_right _ h))))) | exact List.mem_cons_of_mem _ (List.mem_append_left _ (List.mem_append_left _ (List.mem_append_left _ (List.mem_append_left _ (List.mem_append_left _ (List.mem_append_right _ h)))))) | exact List.mem_cons_of_mem _ (List.mem_append_left _ (List.mem_append_left _ (List.mem_append_left _ (List.mem_append_left _ (List.mem_append_left _ (List.mem_append_left _ (List.mem_append_right _ h))))))) | exact List.mem_cons_of_mem _ (List.mem_append_left _ (List.mem_append_left _ (List.mem_append_left _ (List.mem_append_left _ (List.mem_append_left _ (List.mem_append_left _ (List.mem_append_left _ (List.mem_append_right _ h))))))))
theorem in_X1_endOf : ∀ w ∈ wsX10, w ∈ wsX1_endOf := fun w h => by first | exact List.mem_cons_of_mem _ (List.mem_append_right _ h) | exact List.mem_cons_of_mem _ (List.mem_append_left _ (List.mem_append_right _ h)) | exact List.mem_cons_of_mem _ (List.mem_append_left _ (List.mem_append_left _ (List.mem_append_right _ h))) | exact List.mem_cons_of_mem _ (List.mem_append_left _ (List.mem_append_left _ (List.mem_append_left _ (List.mem_append_right _ h)))) | exact List.mem_cons_of_mem _ (List.mem_append_left _ (List.mem_append_left _ (List.mem_append_left _ (List.mem_append_left _ (List.mem_append_right _ h))))) | exact List.mem_cons_of_mem _ (List.mem_append_left _ (List.mem_append_left _ (List.mem_append_left _ (List.mem_append_left _ (List.mem_append_left _ (List.mem_append_right _ h)))))) | exact List.mem_cons_of_mem _ (List.mem_append_left _ (List.mem_append_left _ (List.mem_append_left _ (List.mem_append_left _ (List.mem_append_left _ (List.mem_append_left _ (List.mem_append_right _ h))))))) | exact List.mem_cons_of_mem _ (List.mem_append_left _ (List.mem_append_left _ (List.mem_append_left _ (List.mem_append_left _ (List.mem_append_left _ (List.mem_append_left _ (List.mem_append_left _ (List.mem_append_right _ h))))))))
theorem in_X1_reason : ∀ w ∈ wsX10, w ∈ wsX1_reason := fun w h => by first | exact List.mem_cons_of_mem _ (List.mem_append_right _ h) | exact List.mem_cons_of_mem _ (List.mem_append_left _ (List.mem_append_right _ h)) | exact List.mem_cons_of_mem _ (List.mem_append_left _ (List.mem_append_left _ (List.mem_append_right _ h))) | exact List.mem_cons_of_mem _ (List.mem_append_left _ (List.mem_append_left _ (List.mem_append_left _ (List.mem_append_right _ h)))) | exact List.mem_cons_of_mem _ (List.mem_append_left _ (List.mem_append_left _ (List.mem_append_left _ (List.mem_append_left _ (List.mem_append_right _ h))))) | exact List.mem_cons_of_mem _ (List.mem_append_left _ (List.mem_append_left _ (List.mem_append_left _ (List.mem_append_left _ (List.mem_append_left _ (List.mem_append_right _ h)))))) | exact List.mem_cons_of_mem _ (List.mem_append_left _ (List.mem_append_left _ (List.mem_append_left _ (List.mem_append_left _ (List.mem_append_left _ (List.mem_append_left _ (List.mem_append_right _ h))))))) | exact List.mem_cons_of_mem _ (List.mem_append_left _ (List.mem_append_left _ (List.mem_append_left _ (List.mem_append_left _ (List.mem_append_left _ (List.mem_append_left _ (List.mem_append_left _ (List.mem_append_right _ h))))))))
theorem in_X1_whyNoUse : ∀ w ∈ wsX10, w ∈ wsX1_whyNoUse := fun w h => by first | exact List.mem_cons_of_mem _ (List.mem_append_right _ h) | exact List.mem_cons_of_mem _ (List.mem_append_left _ (List.mem_append_right _ h)) | exact List.mem_cons_of_mem _ (List.mem_append_left _ (List.mem_append_left _ (List.mem_append_right _ h))) | exact List.mem_cons_of_mem _ (List.mem_append_left _ (List.mem_append_left _ (List.mem_append_left _ (List.mem_append_right _ h)))) | exact List.mem_cons_of_mem _ (List.mem_append_left _ (List.mem_append_left _ (List.mem_append_left _ (List.mem_append_left _ (List.mem_append_right _ h))))) | exact List.mem_cons_of_mem _ (List.mem_append_left _ (List.mem_append_left _ (List.mem_append_left _ (List.mem_append_left _ (List.mem_append_left _ (List.mem_append_right _ h)))))) | exact List.mem_cons_of_mem _ (List.mem_append_left _ (List.mem_append_left _ (List.mem_append_left _ (List.mem_append_left _ (List.mem_append_left _ (List.mem_append_left _ (List.mem_append_right _ h))))))) | exact List.mem_cons_of_mem _ (List.mem_append_left _ (List.mem_append_left _ (List.mem_append_left _ (List.mem_append_left _ (List.mem_append_left _ (List.mem_append_left _ (List.mem_append_left _ (List.mem_append_right _ h))))))))
theorem in_X1_use : ∀ w ∈ wsX10, w ∈ wsX1_use := fun w h => by first | exact List.mem_cons_of_mem _ (List.mem_append_right _ h) | exact List.mem_cons_of_mem _ (List.mem_append_left _ (List.mem_append_right _ h)) | exact List.mem_cons_of_mem _ (List.mem_append_left _ (List.mem_append_left _ (List.mem_append_right _ h))) | exact List.mem_cons_of_mem _ (List.mem_append_left _ (List.mem_append_left _ (List.mem_append_left _ (List.mem_append_right _ h)))) | exact List.mem_cons_of_mem _ (List.mem_append_left _ (List.mem_append_left _ (List.mem_append_left _ (List.mem_append_left _ (List.mem_append_right _ h))))) | exact List.mem_cons_of_mem _ (List.mem_append_left _ (List.mem_append_left _ (List.mem_append_left _ (List.mem_append_left _ (List.mem_append_left _ (List.mem_append_right _ h)))))) | exact List.mem_cons_of_mem _ (List.mem_append_left _ (List.mem_append_left _ (List.mem_append_left _ (List.mem_append_left _ (List.mem_append_left _ (List.mem_append_left _ (List.mem_append_right _ h))))))) | exact List.mem_cons_of_mem _ (List.mem_append_left _ (List.mem_append_left _ (List.mem_append_left _ (List.mem_append_left _ (List.mem_append_left _ (List.mem_append_left _ (List.mem_append_left _ (List.mem_append_right _ h))))))))
theorem in_X1_uses : ∀ w ∈ wsX10, w ∈ wsX1_uses := fun w h => by first | exact List.mem_cons_of_mem _ (List.mem_append_right _ h) | exact List.mem_cons_of_mem _ (List.mem_append_left _ (List.mem_append_right _ h)) | exact List.mem_cons_of_mem _ (List.mem_append_left _ (List.mem_append_left _ (List.mem_append_right _ h))) | exact List.mem_cons_of_mem _ (List.mem_append_left _ (List.mem_append_left _ (List.mem_append_left _ (List.mem_append_right _ h)))) | exact List.mem_cons_of_mem _ (List.mem_append_left _ (List.mem_append_left _ (List.mem_append_left _ (List.mem_append_left _ (List.mem_append_right _ h))))) | exact List.mem_cons_of_mem _ (List.mem_append_left _ (List.mem_append_left _ (List.mem_append_left _ (List.mem_append_left _ (List.mem_append_left _ (List.mem_append_right _ h)))))) | exact List.mem_cons_of_mem _ (List.mem_append_left _ (List.mem_append_left _ (List.mem_append_left _ (List.mem_append_left _ (List.mem_append_left _ (List.mem_append_left _ (List.mem_append_right _ h))))))) | exact List.mem_cons_of_mem _ (List.mem_append_left _ (List.mem_append_left _ (List.mem_append_left _ (List.mem_append_left _ (List.mem_append_left _ (List.mem_append_left _ (List.mem_append_left _ (List.mem_append_right _ h))))))))
theorem in_X1_asks : ∀ w ∈ wsX10, w ∈ wsX1_asks := fun w h => by first | exact List.mem_cons_of_mem _ (List.mem_append_right _ h) | exact List.mem_cons_of_mem _ (List.mem_append_left _ (List.mem_append_right _ h)) | exact List.mem_cons_of_mem _ (List.mem_append_left _ (List.mem_append_left _ (List.mem_append_right _ h))) | exact List.mem_cons_of_mem _ (List.mem_append_left _ (List.mem_append_left _ (List.mem_append_left _ (List.mem_append_right _ h)))) | exact List.mem_cons_of_mem _ (List.mem_append_left _ (List.mem_append_left _ (List.mem_append_left _ (List.mem_append_left _ (List.mem_append_right _ h))))) | exact List.mem_cons_of_mem _ (List.mem_append_left _ (List.mem_append_left _ (List.mem_append_left _ (List.mem_append_left _ (List.mem_append_left _ (List.mem_append_right _ h)))))) | exact List.mem_cons_of_mem _ (List.mem_append_left _ (List.mem_append_left _ (List.mem_append_left _ (List.mem_append_left _ (List.mem_append_left _ (List.mem_append_left _ (List.mem_append_right _ h))))))) | exact List.mem_cons_of_mem _ (List.mem_append_left _ (List.mem_append_left _ (List.mem_append_left _ (List.mem_append_left _ (List.mem_append_left _ (List.mem_append_left _ (List.mem_append_left _ (List.mem_append_right _ h))))))))
theorem in_X1_dueSet : ∀ w ∈ wsX10, w ∈ wsX1_dueSet := fun w h => by first | exact List.mem_cons_of_mem _ (List.mem_append_right _ h) | exact List.mem_cons_of_mem _ (List.mem_append_left _ (List.mem_append_right _ h)) | exact List.mem_cons_of_mem _ (List.mem_append_left _ (List.mem_append_left _ (List.mem_append_right _ h))) | exact List.mem_cons_of_mem _ (List.mem_append_left _ (List.mem_append_left _ (List.mem_append_left _ (List.mem_append_right _ h)))) | exact List.mem_cons_of_mem _ (List.mem_append_left _ (List.mem_append_left _ (List.mem_append_left _ (List.mem_append_left _ (List.mem_append_right _ h))))) | exact List.mem_cons_of_mem _ (List.mem_append_left _ (List.mem_append_left _ (List.mem_append_left _ (List.mem_append_left _ (List.mem_append_left _ (List.mem_append_right _ h)))))) | exact List.mem_cons_of_mem _ (List.mem_append_left _ (List.mem_append_left _ (List.mem_append_left _ (List.mem_append_left _ (List.mem_append_left _ (List.mem_append_left _ (List.mem_append_right _ h))))))) | exact List.mem_cons_of_mem _ (List.mem_append_left _ (List.mem_append_left _ (List.mem_append_left _ (List.mem_append_left _ (List.mem_append_left _ (List.mem_append_left _ (List.mem_append_left _ (List.mem_append_right _ h))))))))
theorem in_X1_passDays : ∀ w ∈ wsX10, w ∈ wsX1_passDays := fun w h => by first | exact List.mem_cons_of_mem _ (List.mem_append_right _ h) | exact List.mem_cons_of_mem _ (List.mem_append_left _ (List.mem_append_right _ h)) | exact List.mem_cons_of_mem _ (List.mem_append_left _ (List.mem_append_left _ (List.mem_append_right _ h))) | exact List.mem_cons_of_mem _ (List.mem_append_left _ (List.mem_append_left _ (List.mem_append_left _ (List.mem_append_right _ h)))) | exact List.mem_cons_of_mem _ (List.mem_append_left _ (List.mem_append_left _ (List.mem_append_left _ (List.mem_append_left _ (List.mem_append_right _ h))))) | exact List.mem_cons_of_mem _ (List.mem_append_left _ (List.mem_append_left _ (List.mem_append_left _ (List.mem_append_left _ (List.mem_append_left _ (List.mem_append_right _ h)))))) | exact List.mem_cons_of_mem _ (List.mem_append_left _ (List.mem_append_left _ (List.mem_append_left _ (List.mem_append_left _ (List.mem_append_left _ (List.mem_append_left _ (List.mem_append_right _ h))))))) | exact List.mem_cons_of_mem _ (List.mem_append_left _ (List.mem_append_left _ (List.mem_append_left _ (List.mem_append_left _ (List.mem_append_left _ (List.mem_append_left _ (List.mem_append_left _ (List.mem_append_right _ h))))))))
theorem in_X1_day : ∀ w ∈ wsX10, w ∈ wsX1_day := fun w h => by first | exact List.mem_cons_of_mem _ (List.mem_append_right _ h) | exact List.mem_cons_of_mem _ (List.mem_append_left _ (List.mem_append_right _ h)) | exact List.mem_cons_of_mem _ (List.mem_append_left _ (List.mem_append_left _ (List.mem_append_right _ h))) | exact List.mem_cons_of_mem _ (List.mem_append_left _ (List.mem_append_left _ (List.mem_append_left _ (List.mem_append_right _ h)))) | exact List.mem_cons_of_mem _ (List.mem_append_left _ (List.mem_append_left _ (List.mem_append_left _ (List.mem_append_left _ (List.mem_append_right _ h))))) | exact List.mem_cons_of_mem _ (List.mem_append_left _ (List.mem_append_left _ (List.mem_append_left _ (List.mem_append_left _ (List.mem_append_left _ (List.mem_append_right _ h)))))) | exact List.mem_cons_of_mem _ (List.mem_append_left _ (List.mem_append_left _ (List.mem_append_left _ (List.mem_append_left _ (List.mem_append_left _ (List.mem_append_left _ (List.mem_append_right _ h))))))) | exact List.mem_cons_of_mem _ (List.mem_append_left _ (List.mem_append_left _ (List.mem_append_left _ (List.mem_append_left _ (List.mem_append_left _ (List.mem_append_left _ (List.mem_append_left _ (List.mem_append_right _ h))))))))
theorem in_X1_nextEnd : ∀ w ∈ wsX10, w ∈ wsX1_nextEnd := fun w h => by first | exact List.mem_cons_of_mem _ (List.mem_append_right _ h) | exact List.mem_cons_of_mem _ (List.mem_append_left _ (List.mem_append_right _ h)) | exact List.mem_cons_of_mem _ (List.mem_append_left _ (List.mem_append_left _ (List.mem_append_right _ h))) | exact List.mem_cons_of_mem _ (List.mem_append_left _ (List.mem_append_left _ (List.mem_append_left _ (List.mem_append_right _ h)))) | exact List.mem_cons_of_mem _ (List.mem_append_left _ (List.mem_append_left _ (List.mem_append_left _ (List.mem_append_left _ (List.mem_append_right _ h))))) | exact List.mem_cons_of_mem _ (List.mem_append_left _ (List.mem_append_left _ (List.mem_append_left _ (List.mem_append_left _ (List.mem_append_left _ (List.mem_append_right _ h)))))) | exact List.mem_cons_of_mem _ (List.mem_append_left _ (List.mem_append_left _ (List.mem_append_left _ (List.mem_append_left _ (List.mem_append_left _ (List.mem_append_left _ (List.mem_append_right _ h))))))) | exact List.mem_cons_of_mem _ (List.mem_append_left _ (List.mem_append_left _ (List.mem_append_left _ (List.mem_append_left _ (List.mem_append_left _ (List.mem_append_left _ (List.mem_append_left _ (List.mem_append_right _ h))))))))
theorem in_X1_heldSet : ∀ w ∈ wsX10, w ∈ wsX1_heldSet := fun w h => by first | exact List.mem_cons_of_mem _ (List.mem_append_right _ h) | exact List.mem_cons_of_mem _ (List.mem_append_left _ (List.mem_append_right _ h)) | exact List.mem_cons_of_mem _ (List.mem_append_left _ (List.mem_append_left _ (List.mem_append_right _ h))) | exact List.mem_cons_of_mem _ (List.mem_append_left _ (List.mem_append_left _ (List.mem_append_left _ (List.mem_append_right _ h)))) | exact List.mem_cons_of_mem _ (List.mem_append_left _ (List.mem_append_left _ (List.mem_append_left _ (List.mem_append_left _ (List.mem_append_right _ h))))) | exact List.mem_cons_of_mem _ (List.mem_append_left _ (List.mem_append_left _ (List.mem_append_left _ (List.mem_append_left _ (List.mem_append_left _ (List.mem_append_right _ h)))))) | exact List.mem_cons_of_mem _ (List.mem_append_left _ (List.mem_append_left _ (List.mem_append_left _ (List.mem_append_left _ (List.mem_append_left _ (List.mem_append_left _ (List.mem_append_right _ h))))))) | exact List.mem_cons_of_mem _ (List.mem_append_left _ (List.mem_append_left _ (List.mem_append_left _ (List.mem_append_left _ (List.mem_append_left _ (List.mem_append_left _ (List.mem_append_left _ (List.mem_append_right _ h))))))))
theorem in_X1_hold : ∀ w ∈ wsX10, w ∈ wsX1_hold := fun w h => by first | exact List.mem_cons_of_mem _ (List.mem_append_right _ h) | exact List.mem_cons_of_mem _ (List.mem_append_left _ (List.mem_append_right _ h)) | exact List.mem_cons_of_mem _ (List.mem_append_left _ (List.mem_append_left _ (List.mem_append_right _ h))) | exact List.mem_cons_of_mem _ (List.mem_append_left _ (List.mem_append_left _ (List.mem_append_left _ (List.mem_append_right _ h)))) | exact List.mem_cons_of_mem _ (List.mem_append_left _ (List.mem_append_left _ (List.mem_append_left _ (List.mem_append_left _ (List.mem_append_right _ h))))) | exact List.mem_cons_of_mem _ (List.mem_append_left _ (List.mem_append_left _ (List.mem_append_left _ (List.mem_append_left _ (List.mem_append_left _ (List.mem_append_right _ h)))))) | exact List.mem_cons_of_mem _ (List.mem_append_left _ (List.mem_append_left _ (List.mem_append_left _ (List.mem_append_left _ (List.mem_append_left _ (List.mem_append_left _ (List.mem_append_right _ h))))))) | exact List.mem_cons_of_mem _ (List.mem_append_left _ (List.mem_append_left _ (List.mem_append_left _ (List.mem_append_left _ (List.mem_append_left _ (List.mem_append_left _ (List.mem_append_left _ (List.mem_append_right _ h))))))))
theorem in_X1_close : ∀ w ∈ wsX10, w ∈ wsX1_close := fun w h => by first | exact List.mem_cons_of_mem _ (List.mem_append_right _ h) | exact List.mem_cons_of_mem _ (List.mem_append_left _ (List.mem_append_right _ h)) | exact List.mem_cons_of_mem _ (List.mem_append_left _ (List.mem_append_left _ (List.mem_append_right _ h))) | exact List.mem_cons_of_mem _ (List.mem_append_left _ (List.mem_append_left _ (List.mem_append_left _ (List.mem_append_right _ h)))) | exact List.mem_cons_of_mem _ (List.mem_append_left _ (List.mem_append_left _ (List.mem_append_left _ (List.mem_append_left _ (List.mem_append_right _ h))))) | exact List.mem_cons_of_mem _ (List.mem_append_left _ (List.mem_append_left _ (List.mem_append_left _ (List.mem_append_left _ (List.mem_append_left _ (List.mem_append_right _ h)))))) | exact List.mem_cons_of_mem _ (List.mem_append_left _ (List.mem_append_left _ (List.mem_append_left _ (List.mem_append_left _ (List.mem_append_left _ (List.mem_append_left _ (List.mem_append_right _ h))))))) | exact List.mem_cons_of_mem _ (List.mem_append_left _ (List.mem_append_left _ (List.mem_append_left _ (List.mem_append_left _ (List.mem_append_left _ (List.mem_append_left _ (List.mem_append_left _ (List.mem_append_right _ h))))))))
theorem in_X1_held : ∀ w ∈ wsX10, w ∈ wsX1_held := fun w h => by first | exact List.mem_cons_of_mem _ (List.mem_append_right _ h) | exact List.mem_cons_of_mem _ (List.mem_append_left _ (List.mem_append_right _ h)) | exact List.mem_cons_of_mem _ (List.mem_append_left _ (List.mem_append_left _ (List.mem_append_right _ h))) | exact List.mem_cons_of_mem _ (List.mem_append_left _ (List.mem_append_left _ (List.mem_append_left _ (List.mem_append_right _ h)))) | exact List.mem_cons_of_mem _ (List.mem_append_left _ (List.mem_append_left _ (List.mem_append_left _ (List.mem_append_left _ (List.mem_append_right _ h))))) | exact List.mem_cons_of_mem _ (List.mem_append_left _ (List.mem_append_left _ (List.mem_append_left _ (List.mem_append_left _ (List.mem_append_left _ (List.mem_append_right _ h)))))) | exact List.mem_cons_of_mem _ (List.mem_append_left _ (List.mem_append_left _ (List.mem_append_left _ (List.mem_append_left _ (List.mem_append_left _ (List.mem_append_left _ (List.mem_append_right _ h))))))) | exact List.mem_cons_of_mem _ (List.mem_append_left _ (List.mem_append_left _ (List.mem_append_left _ (List.mem_append_left _ (List.mem_append_left _ (List.mem_append_left _ (List.mem_append_left _ (List.mem_append_right _ h))))))))
theorem in_X1_request : ∀ w ∈ wsX10, w ∈ wsX1_request := fun w h => by first | exact List.mem_cons_of_mem _ (List.mem_append_right _ h) | exact List.mem_cons_of_mem _ (List.mem_append_left _ (List.mem_append_right _ h)) | exact List.mem_cons_of_mem _ (List.mem_append_left _ (List.mem_append_left _ (List.mem_append_right _ h))) | exact List.mem_cons_of_mem _ (List.mem_append_left _ (List.mem_append_left _ (List.mem_append_left _ (List.mem_append_right _ h)))) | exact List.mem_cons_of_mem _ (List.mem_append_left _ (List.mem_append_left _ (List.mem_append_left _ (List.mem_append_left _ (List.mem_append_right _ h))))) | exact List.mem_cons_of_mem _ (List.mem_append_left _ (List.mem_append_left _ (List.mem_append_left _ (List.mem_append_left _ (List.mem_append_left _ (List.mem_append_right _ h)))))) | exact List.mem_cons_of_mem _ (List.mem_append_left _ (List.mem_append_left _ (List.mem_append_left _ (List.mem_append_left _ (List.mem_append_left _ (List.mem_append_left _ (List.mem_append_right _ h))))))) | exact List.mem_cons_of_mem _ (List.mem_append_left _ (List.mem_append_left _ (List.mem_append_left _ (List.mem_append_left _ (List.mem_append_left _ (List.mem_append_left _ (List.mem_append_left _ (List.mem_append_right _ h))))))))
theorem in_X1_kept : ∀ w ∈ wsX10, w ∈ wsX1_kept := fun w h => by first | exact List.mem_cons_of_mem _ (List.mem_append_right _ h) | exact List.mem_cons_of_mem _ (List.mem_append_left _ (List.mem_append_right _ h)) | exact List.mem_cons_of_mem _ (List.mem_append_left _ (List.mem_append_left _ (List.mem_append_right _ h))) | exact List.mem_cons_of_mem _ (List.mem_append_left _ (List.mem_append_left _ (List.mem_append_left _ (List.mem_append_right _ h)))) | exact List.mem_cons_of_mem _ (List.mem_append_left _ (List.mem_append_left _ (List.mem_append_left _ (List.mem_append_left _ (List.mem_append_right _ h))))) | exact List.mem_cons_of_mem _ (List.mem_append_left _ (List.mem_append_left _ (List.mem_append_left _ (List.mem_append_left _ (List.mem_append_left _ (List.mem_append_right _ h)))))) | exact List.mem_cons_of_mem _ (List.mem_append_left _ (List.mem_append_left _ (List.mem_append_left _ (List.mem_append_left _ (List.mem_append_left _ (List.mem_append_left _ (List.mem_append_right _ h))))))) | exact List.mem_cons_of_mem _ (List.mem_append_left _ (List.mem_append_left _ (List.mem_append_left _ (List.mem_append_left _ (List.mem_append_left _ (List.mem_append_left _ (List.mem_append_left _ (List.mem_append_right _ h))))))))
theorem in_X1_whyKept : ∀ w ∈ wsX10, w ∈ wsX1_whyKept := fun w h => by first | exact List.mem_cons_of_mem _ (List.mem_append_right _ h) | exact List.mem_cons_of_mem _ (List.mem_append_left _ (List.mem_append_right _ h)) | exact List.mem_cons_of_mem _ (List.mem_append_left _ (List.mem_append_left _ (List.mem_append_right _ h))) | exact List.mem_cons_of_mem _ (List.mem_append_left _ (List.mem_append_left _ (List.mem_append_left _ (List.mem_append_right _ h)))) | exact List.mem_cons_of_mem _ (List.mem_append_left _ (List.mem_append_left _ (List.mem_append_left _ (List.mem_append_left _ (List.mem_append_right _ h))))) | exact List.mem_cons_of_mem _ (List.mem_append_left _ (List.mem_append_left _ (List.mem_append_left _ (List.mem_append_left _ (List.mem_append_left _ (List.mem_append_right _ h)))))) | exact List.mem_cons_of_mem _ (List.mem_append_left _ (List.mem_append_left _ (List.mem_append_left _ (List.mem_append_left _ (List.mem_append_left _ (List.mem_append_left _ (List.mem_append_right _ h))))))) | exact List.mem_cons_of_mem _ (List.mem_append_left _ (List.mem_append_left _ (List.mem_append_left _ (List.mem_append_left _ (List.mem_append_left _ (List.mem_append_left _ (List.mem_append_left _ (List.mem_append_right _ h))))))))
theorem in_X1_eraseOne : ∀ w ∈ wsX10, w ∈ wsX1_eraseOne := fun w h => by first | exact List.mem_cons_of_mem _ (List.mem_append_right _ h) | exact List.mem_cons_of_mem _ (List.mem_append_left _ (List.mem_append_right _ h)) | exact List.mem_cons_of_mem _ (List.mem_append_left _ (List.mem_append_left _ (List.mem_append_right _ h))) | exact List.mem_cons_of_mem _ (List.mem_append_left _ (List.mem_append_left _ (List.mem_append_left _ (List.mem_append_right _ h)))) | exact List.mem_cons_of_mem _ (List.mem_append_left _ (List.mem_append_left _ (List.mem_append_left _ (List.mem_append_left _ (List.mem_append_right _ h))))) | exact List.mem_cons_of_mem _ (List.mem_append_left _ (List.mem_append_left _ (List.mem_append_left _ (List.mem_append_left _ (List.mem_append_left _ (List.mem_append_right _ h)))))) | exact List.mem_cons_of_mem _ (List.mem_append_left _ (List.mem_append_left _ (List.mem_append_left _ (List.mem_append_left _ (List.mem_append_left _ (List.mem_append_left _ (List.mem_append_right _ h))))))) | exact List.mem_cons_of_mem _ (List.mem_append_left _ (List.mem_append_left _ (List.mem_append_left _ (List.mem_append_left _ (List.mem_append_left _ (List.mem_append_left _ (List.mem_append_left _ (List.mem_append_right _ h))))))))
theorem in_X1_erase : ∀ w ∈ wsX10, w ∈ wsX1_erase := fun w h => by first | exact List.mem_cons_of_mem _ (List.mem_append_right _ h) | exact List.mem_cons_of_mem _ (List.mem_append_left _ (List.mem_append_right _ h)) | exact List.mem_cons_of_mem _ (List.mem_append_left _ (List.mem_append_left _ (List.mem_append_right _ h))) | exact List.mem_cons_of_mem _ (List.mem_append_left _ (List.mem_append_left _ (List.mem_append_left _ (List.mem_append_right _ h)))) | exact List.mem_cons_of_mem _ (List.mem_append_left _ (List.mem_append_left _ (List.mem_append_left _ (List.mem_append_left _ (List.mem_append_right _ h))))) | exact List.mem_cons_of_mem _ (List.mem_append_left _ (List.mem_append_left _ (List.mem_append_left _ (List.mem_append_left _ (List.mem_append_left _ (List.mem_append_right _ h)))))) | exact List.mem_cons_of_mem _ (List.mem_append_left _ (List.mem_append_left _ (List.mem_append_left _ (List.mem_append_left _ (List.mem_append_left _ (List.mem_append_left _ (List.mem_append_right _ h))))))) | exact List.mem_cons_of_mem _ (List.mem_append_left _ (List.mem_append_left _ (List.mem_append_left _ (List.mem_append_left _ (List.mem_append_left _ (List.mem_append_left _ (List.mem_append_left _ (List.mem_append_right _ h))))))))
theorem in_X1_eraseAll : ∀ w ∈ wsX10, w ∈ wsX1_eraseAll := fun w h => by first | exact List.mem_cons_of_mem _ (List.mem_append_right _ h) | exact List.mem_cons_of_mem _ (List.mem_append_left _ (List.mem_append_right _ h)) | exact List.mem_cons_of_mem _ (List.mem_append_left _ (List.mem_append_left _ (List.mem_append_right _ h))) | exact List.mem_cons_of_mem _ (List.mem_append_left _ (List.mem_append_left _ (List.mem_append_left _ (List.mem_append_right _ h)))) | exact List.mem_cons_of_mem _ (List.mem_append_left _ (List.mem_append_left _ (List.mem_append_left _ (List.mem_append_left _ (List.mem_append_right _ h))))) | exact List.mem_cons_of_mem _ (List.mem_append_left _ (List.mem_append_left _ (List.mem_append_left _ (List.mem_append_left _ (List.mem_append_left _ (List.mem_append_right _ h)))))) | exact List.mem_cons_of_mem _ (List.mem_append_left _ (List.mem_append_left _ (List.mem_append_left _ (List.mem_append_left _ (List.mem_append_left _ (List.mem_append_left _ (List.mem_append_right _ h))))))) | exact List.mem_cons_of_mem _ (List.mem_append_left _ (List.mem_append_left _ (List.mem_append_left _ (List.mem_append_left _ (List.mem_append_left _ (List.mem_append_left _ (List.mem_append_left _ (List.mem_append_right _ h))))))))
theorem in_X1_tracesOf : ∀ w ∈ wsX10, w ∈ wsX1_tracesOf := fun w h => by first | exact List.mem_cons_of_mem _ (List.mem_append_right _ h) | exact List.mem_cons_of_mem _ (List.mem_append_left _ (List.mem_append_right _ h)) | exact List.mem_cons_of_mem _ (List.mem_append_left _ (List.mem_append_left _ (List.mem_append_right _ h))) | exact List.mem_cons_of_mem _ (List.mem_append_left _ (List.mem_append_left _ (List.mem_append_left _ (List.mem_append_right _ h)))) | exact List.mem_cons_of_mem _ (List.mem_append_left _ (List.mem_append_left _ (List.mem_append_left _ (List.mem_append_left _ (List.mem_append_right _ h))))) | exact List.mem_cons_of_mem _ (List.mem_append_left _ (List.mem_append_left _ (List.mem_append_left _ (List.mem_append_left _ (List.mem_append_left _ (List.mem_append_right _ h)))))) | exact List.mem_cons_of_mem _ (List.mem_append_left _ (List.mem_append_left _ (List.mem_append_left _ (List.mem_append_left _ (List.mem_append_left _ (List.mem_append_left _ (List.mem_append_right _ h))))))) | exact List.mem_cons_of_mem _ (List.mem_append_left _ (List.mem_append_left _ (List.mem_append_left _ (List.mem_append_left _ (List.mem_append_left _ (List.mem_append_left _ (List.mem_append_left _ (List.mem_append_right _ h))))))))
theorem in_X1_traces : ∀ w ∈ wsX10, w ∈ wsX1_traces := fun w h => by first | exact List.mem_cons_of_mem _ (List.mem_append_right _ h) | exact List.mem_cons_of_mem _ (List.mem_append_left _ (List.mem_append_right _ h)) | exact List.mem_cons_of_mem _ (List.mem_append_left _ (List.mem_append_left _ (List.mem_append_right _ h))) | exact List.mem_cons_of_mem _ (List.mem_append_left _ (List.mem_append_left _ (List.mem_append_left _ (List.mem_append_right _ h)))) | exact List.mem_cons_of_mem _ (List.mem_append_left _ (List.mem_append_left _ (List.mem_append_left _ (List.mem_append_left _ (List.mem_append_right _ h))))) | exact List.mem_cons_of_mem _ (List.mem_append_left _ (List.mem_append_left _ (List.mem_append_left _ (List.mem_append_left _ (List.mem_append_left _ (List.mem_append_right _ h)))))) | exact List.mem_cons_of_mem _ (List.mem_append_left _ (List.mem_append_left _ (List.mem_append_left _ (List.mem_append_left _ (List.mem_append_left _ (List.mem_append_left _ (List.mem_append_right _ h))))))) | exact List.mem_cons_of_mem _ (List.mem_append_left _ (List.mem_append_left _ (List.mem_append_left _ (List.mem_append_left _ (List.mem_append_left _ (List.mem_append_left _ (List.mem_append_left _ (List.mem_append_right _ h))))))))
theorem in_X1_tracesFromRoots : ∀ w ∈ wsX10, w ∈ wsX1_tracesFromRoots := fun w h => by first | exact List.mem_cons_of_mem _ (List.mem_append_right _ h) | exact List.mem_cons_of_mem _ (List.mem_append_left _ (List.mem_append_right _ h)) | exact List.mem_cons_of_mem _ (List.mem_append_left _ (List.mem_append_left _ (List.mem_append_right _ h))) | exact List.mem_cons_of_mem _ (List.mem_append_left _ (List.mem_append_left _ (List.mem_append_left _ (List.mem_append_right _ h)))) | exact List.mem_cons_of_mem _ (List.mem_append_left _ (List.mem_append_left _ (List.mem_append_left _ (List.mem_append_left _ (List.mem_append_right _ h))))) | exact List.mem_cons_of_mem _ (List.mem_append_left _ (List.mem_append_left _ (List.mem_append_left _ (List.mem_append_left _ (List.mem_append_left _ (List.mem_append_right _ h)))))) | exact List.mem_cons_of_mem _ (List.mem_append_left _ (List.mem_append_left _ (List.mem_append_left _ (List.mem_append_left _ (List.mem_append_left _ (List.mem_append_left _ (List.mem_append_right _ h))))))) | exact List.mem_cons_of_mem _ (List.mem_append_left _ (List.mem_append_left _ (List.mem_append_left _ (List.mem_append_left _ (List.mem_append_left _ (List.mem_append_left _ (List.mem_append_left _ (List.mem_append_right _ h))))))))
theorem in_X1_due : ∀ w ∈ wsX10, w ∈ wsX1_due := fun w h => by first | exact List.mem_cons_of_mem _ (List.mem_append_right _ h) | exact List.mem_cons_of_mem _ (List.mem_append_left _ (List.mem_append_right _ h)) | exact List.mem_cons_of_mem _ (List.mem_append_left _ (List.mem_append_left _ (List.mem_append_right _ h))) | exact List.mem_cons_of_mem _ (List.mem_append_left _ (List.mem_append_left _ (List.mem_append_left _ (List.mem_append_right _ h)))) | exact List.mem_cons_of_mem _ (List.mem_append_left _ (List.mem_append_left _ (List.mem_append_left _ (List.mem_append_left _ (List.mem_append_right _ h))))) | exact List.mem_cons_of_mem _ (List.mem_append_left _ (List.mem_append_left _ (List.mem_append_left _ (List.mem_append_left _ (List.mem_append_left _ (List.mem_append_right _ h)))))) | exact List.mem_cons_of_mem _ (List.mem_append_left _ (List.mem_append_left _ (List.mem_append_left _ (List.mem_append_left _ (List.mem_append_left _ (List.mem_append_left _ (List.mem_append_right _ h))))))) | exact List.mem_cons_of_mem _ (List.mem_append_left _ (List.mem_append_left _ (List.mem_append_left _ (List.mem_append_left _ (List.mem_append_left _ (List.mem_append_left _ (List.mem_append_left _ (List.mem_append_right _ h))))))))
theorem in_X1_thrown : ∀ w ∈ wsX10, w ∈ wsX1_thrown := fun w h => by first | exact List.mem_cons_of_mem _ (List.mem_append_right _ h) | exact List.mem_cons_of_mem _ (List.mem_append_left _ (List.mem_append_right _ h)) | exact List.mem_cons_of_mem _ (List.mem_append_left _ (List.mem_append_left _ (List.mem_append_right _ h))) | exact List.mem_cons_of_mem _ (List.mem_append_left _ (List.mem_append_left _ (List.mem_append_left _ (List.mem_append_right _ h)))) | exact List.mem_cons_of_mem _ (List.mem_append_left _ (List.mem_append_left _ (List.mem_append_left _ (List.mem_append_left _ (List.mem_append_right _ h))))) | exact List.mem_cons_of_mem _ (List.mem_append_left _ (List.mem_append_left _ (List.mem_append_left _ (List.mem_append_left _ (List.mem_append_left _ (List.mem_append_right _ h)))))) | exact List.mem_cons_of_mem _ (List.mem_append_left _ (List.mem_append_left _ (List.mem_append_left _ (List.mem_append_left _ (List.mem_append_left _ (List.mem_append_left _ (List.mem_append_right _ h))))))) | exact List.mem_cons_of_mem _ (List.mem_append_left _ (List.mem_append_left _ (List.mem_append_left _ (List.mem_append_left _ (List.mem_append_left _ (List.mem_append_left _ (List.mem_append_left _ (List.mem_append_right _ h))))))))
set_option maxHeartbeats 4000000 in
set_option maxRecDepth 100000 in
theorem c_X1_in (l : Launch) (v a b : Int32) : Met l yX1_in wsX1_in ({ frames := 0, cells := 0, slots := 0, locals := 0 } : Room) (va_Pc ([.int v, .int a, .int b] : List Value) (fun _ => True)) (q_Q (some (.int (b01 (m_in v a b))))) 0 0 q_no := by
  refine q_met (cc := cX1_in) (maxL := 3) (ret := (some .boolean)) (by decide) rfl (Nat.le_of_ble_eq_true rfl) ?_
  intro p e s m below meth c hx hb hml hr hts hown hlocks hB ls hl
  have hown : s.vm.findClass RX1 = some m.cls := hown
  have hl : lv_has ls 3 [(0, .int v), (1, .int a), (2, .int b)] := hl
  refine lv_iload_n hx hb dX1_in_0 rfl (lv_at hl 0 rfl) ?_
  refine lv_iload_n hx hb dX1_in_1 rfl (lv_at hl 1 rfl) ?_
  refine lv_icmp_lt (tgt := 14) hx hb dX1_in_2 (by decide) (fun c2 => ?_) (fun c2 => ?_)
  · refine lv_iconst (v := 0) hx hb dX1_in_14 (by decide) ?_
    exact q_zret hx hb hr hlocks (by rw [m_in, decide_eq_f (fun h => h c2)]; rfl) dX1_in_15
  · refine lv_iload_n hx hb dX1_in_5 rfl (lv_at hl 0 rfl) ?_
    refine lv_iload_n hx hb dX1_in_6 rfl (lv_at hl 2 rfl) ?_
    refine lv_icmp_gt (tgt := 14) hx hb dX1_in_7 (by decide) (fun c7 => ?_) (fun c7 => ?_)
    · refine lv_iconst (v := 0) hx hb dX1_in_14 (by decide) ?_
      exact q_zret hx hb hr hlocks (by rw [m_in, decide_eq_f (q := ¬ b < v) (fun h => h c7), Bool.and_false]; rfl) dX1_in_15
    · refine lv_iconst (v := 1) hx hb dX1_in_10 (by decide) ?_
      refine lv_goto (tgt := 15) hx hb dX1_in_11 (by decide) ?_
      exact q_zret hx hb hr hlocks (by rw [m_in, decide_eq_true c2, decide_eq_true c7]; rfl) dX1_in_15
theorem k_X1_in {p : Program} {l : Launch} {e : Env} {R : Room} {s : State} {m : MethodId} {args : Array Value} {below : List Frame} {meth : Method} {c : Code} {H : Heap} {locs : List Loc} {cells slots : Nat} {Q : State → Prop} {cc : ByteArray} {pc : Nat} {ls : Array Slot} {rest : List Value} {Ts : List Cond} (v a b : Int32) {own : String} {idx nL : Nat} (S : CallFix p m c cc nL s args Ts own) (hG : GoodIn Ts (va_wsS own idx yX1_in wsX1_in)) (hR : ({ frames := 0, cells := 0, slots := 0, locals := 0 } : Room).frames + 1 ≤ R.frames ∧ 8 + (3 + 11) + ({ frames := 0, cells := 0, slots := 0, locals := 0 } : Room).locals ≤ R.locals) (hsz : ls.size = nL) (hcap : cells ≤ R.cells ∧ slots ≤ R.slots) (hrm : (rest.map fun v => v.category).sum ≤ 8) (hdg : decode cc pc = .ok (.invokestatic idx, 3)) (kk : W p l e R s m args below meth c H locs cells slots Q (F0 m (pc + 3) ls (.int (b01 (m_in v a b)) :: rest))) : W p l e R s m args below meth c H locs cells slots Q (F0 m pc ls (.int b :: .int a :: .int v :: rest)) :=
  q_call (va_runS (As := [.int v, .int a, .int b]) (rest := rest) S (c_X1_in l v a b) (va_cwS 3 S.2.2.2.2 hG rfl rfl rfl (by decide +kernel) hR) ⟨ty_blind (fun _ _ _ _ h => h), fun U _ _ => ⟨rfl, trivial⟩⟩ rfl rfl hsz rfl (lv_room hrm) hdg hcap) kk

set_option maxHeartbeats 4000000 in
set_option maxRecDepth 100000 in
theorem c_X1_has (l : Launch) (set : Int32) (k : Nat) (hk : k < 32) : Met l yX1_has wsX1_has ({ frames := 0, cells := 0, slots := 0, locals := 0 } : Room) (va_Pc ([.int set, .int (nI k)] : List Value) (fun _ => True)) (q_Q (some (.int (b01 (bt set k))))) 0 0 q_no := by
  refine q_met (cc := cX1_has) (maxL := 2) (ret := (some .boolean)) (by decide) rfl (Nat.le_of_ble_eq_true rfl) ?_
  intro p e s m below meth c hx hb hml hr hts hown hlocks hB ls hl
  have hown : s.vm.findClass RX1 = some m.cls := hown
  have hl : lv_has ls 2 [(0, .int set), (1, .int (nI k))] := hl
  refine lv_iload_n hx hb dX1_has_0 rfl (lv_at hl 0 rfl) ?_
  refine lv_iload_n hx hb dX1_has_1 rfl (lv_at hl 1 rfl) ?_
  refine lv_ishr hx hb dX1_has_2 ?_
  refine lv_iconst (v := 1) hx hb dX1_has_3 (by decide) ?_
  refine lv_iand hx hb dX1_has_4 ?_
  refine lv_iconst (v := 1) hx hb dX1_has_5 (by decide) ?_
  refine lv_icmp_ne (tgt := 13) hx hb dX1_has_6 (by decide) (fun c6 => ?_) (fun c6 => ?_)
  · refine lv_iconst (v := 0) hx hb dX1_has_13 (by decide) ?_
    exact q_zret hx hb hr hlocks (by rw [m_has_f hk c6]; rfl) dX1_has_14
  · refine lv_iconst (v := 1) hx hb dX1_has_9 (by decide) ?_
    refine lv_goto (tgt := 14) hx hb dX1_has_10 (by decide) ?_
    exact q_zret hx hb hr hlocks (by rw [m_has_t hk c6]; rfl) dX1_has_14
theorem k_X1_has {p : Program} {l : Launch} {e : Env} {R : Room} {s : State} {m : MethodId} {args : Array Value} {below : List Frame} {meth : Method} {c : Code} {H : Heap} {locs : List Loc} {cells slots : Nat} {Q : State → Prop} {cc : ByteArray} {pc : Nat} {ls : Array Slot} {rest : List Value} {Ts : List Cond} (set : Int32) (k : Nat) (hk : k < 32) {own : String} {idx nL : Nat} (S : CallFix p m c cc nL s args Ts own) (hG : GoodIn Ts (va_wsS own idx yX1_has wsX1_has)) (hR : ({ frames := 0, cells := 0, slots := 0, locals := 0 } : Room).frames + 1 ≤ R.frames ∧ 8 + (2 + 11) + ({ frames := 0, cells := 0, slots := 0, locals := 0 } : Room).locals ≤ R.locals) (hsz : ls.size = nL) (hcap : cells ≤ R.cells ∧ slots ≤ R.slots) (hrm : (rest.map fun v => v.category).sum ≤ 8) (hdg : decode cc pc = .ok (.invokestatic idx, 3)) (kk : W p l e R s m args below meth c H locs cells slots Q (F0 m (pc + 3) ls (.int (b01 (bt set k)) :: rest))) : W p l e R s m args below meth c H locs cells slots Q (F0 m pc ls (.int (nI k) :: .int set :: rest)) :=
  q_call (va_runS (As := [.int set, .int (nI k)]) (rest := rest) S (c_X1_has l set k hk) (va_cwS 2 S.2.2.2.2 hG rfl rfl rfl (by decide +kernel) hR) ⟨ty_blind (fun _ _ _ _ h => h), fun U _ _ => ⟨rfl, trivial⟩⟩ rfl rfl hsz rfl (lv_room hrm) hdg hcap) kk

set_option maxHeartbeats 4000000 in
set_option maxRecDepth 100000 in
theorem c_X1_sizeOf (l : Launch) (set : Int32) : Met l yX1_sizeOf wsX1_sizeOf ({ frames := 0, cells := 0, slots := 0, locals := 0 } : Room) (va_Pc ([.int set] : List Value) (fun _ => True)) (q_Q (some (.int (m_size set 30)))) 0 0 q_no := by
  refine q_met (cc := cX1_sizeOf) (maxL := 3) (ret := (some .int)) (by decide) rfl (Nat.le_of_ble_eq_true rfl) ?_
  intro p e s m below meth c hx hb hml hr hts hown hlocks hB ls hl
  have hown : s.vm.findClass RX1 = some m.cls := hown
  have hl : lv_has ls 3 [(0, .int set)] := hl
  refine lv_iconst (v := 0) hx hb dX1_sizeOf_0 (by decide) ?_
  refine lv_istore_n (lv' := [(1, .int 0), (0, .int set)]) hx hb dX1_sizeOf_1 rfl hl (by decide) rfl (fun ls hl => ?_)
  refine lv_iconst (v := 0) hx hb dX1_sizeOf_2 (by decide) ?_
  refine lv_istore_n (lv' := [(2, .int 0), (1, .int 0), (0, .int set)]) hx hb dX1_sizeOf_3 rfl hl (by decide) rfl (fun ls hl => ?_)
  have loop4 : ∀ (n k : Nat), k ≤ 30 → 30 + 1 ≤ k + n → ∀ ls, lv_has ls 3 [(0, .int set), (1, .int (m_size set k)), (2, .int (nI k))] → q_G p l e ({ frames := 0, cells := 0, slots := 0, locals := 0 } : Room) s m ([.int set] : List Value).toArray below meth c (some (.int (m_size set 30))) (F0 m 4 ls []) := by
    intro n
    induction n with
    | zero => intro k h1 h2; omega
    | succ n ihk =>
      intro k hk_k hn_k   ls hl
      refine lv_iload_n hx hb dX1_sizeOf_4 rfl (lv_at hl 2 rfl) ?_
      refine lv_bipush (v := 30) hx hb dX1_sizeOf_5 (by decide) ?_
      refine lv_icmp_ge (tgt := 24) hx hb dX1_sizeOf_7 (by decide) (fun c7 => ?_) (fun c7 => ?_)
      · have hkn : k = 30 := Nat.le_antisymm hk_k (ge_t (n := 30) rfl (by omega) (by omega) c7)
        refine lv_iload_n hx hb dX1_sizeOf_24 rfl (lv_at hl 1 rfl) ?_
        exact q_iret hx hb hr hlocks (by rw [hkn]) dX1_sizeOf_25
      · have hkn : k < 30 := ge_f (n := 30) rfl (by omega) c7
        refine lv_iload_n hx hb dX1_sizeOf_10 rfl (lv_at hl 1 rfl) ?_
        refine lv_iload_n hx hb dX1_sizeOf_11 rfl (lv_at hl 0 rfl) ?_
        refine lv_iload_n hx hb dX1_sizeOf_12 rfl (lv_at hl 2 rfl) ?_
        refine lv_ishr hx hb dX1_sizeOf_13 ?_
        refine lv_iconst (v := 1) hx hb dX1_sizeOf_14 (by decide) ?_
        refine lv_iand hx hb dX1_sizeOf_15 ?_
        refine lv_iadd hx hb dX1_sizeOf_16 ?_
        refine lv_istore_n (lv' := [(1, .int ((m_size set k) + ((set >>> ((nI k) &&& 31)) &&& 1))), (0, .int set), (2, .int (nI k))]) hx hb dX1_sizeOf_17 rfl hl (by decide) rfl (fun ls hl => ?_)
        refine lv_iinc (v := (nI k) + 1) (lv' := [(2, .int ((nI k) + 1)), (1, .int ((m_size set k) + ((set >>> ((nI k) &&& 31)) &&& 1))), (0, .int set)]) hx hb dX1_sizeOf_18 hl (k := 2) rfl rfl (by decide) rfl (fun ls hl => ?_)
        refine lv_goto (tgt := 4) hx hb dX1_sizeOf_21 (by decide) ?_
        exact ihk (k + 1) (by omega) (by omega)   _ (lv_to (L := [(0, .int set), (1, .int ((m_size set k) + ((set >>> ((nI k) &&& 31)) &&& 1))), (2, .int ((nI k) + 1))]) (lv_sub hl [2, 1, 0] rfl) (lv_cr (lv_ci (rfl) (lv_ci (nI_1 k) rfl))))
  exact loop4 (30 + 1) 0 (by omega) (by omega)   _ (lv_to (L := [(0, .int set), (1, .int 0), (2, .int 0)]) (lv_sub hl [2, 1, 0] rfl) (lv_cr (lv_ci (rfl) (lv_ci (rfl) rfl))))
theorem k_X1_sizeOf {p : Program} {l : Launch} {e : Env} {R : Room} {s : State} {m : MethodId} {args : Array Value} {below : List Frame} {meth : Method} {c : Code} {H : Heap} {locs : List Loc} {cells slots : Nat} {Q : State → Prop} {cc : ByteArray} {pc : Nat} {ls : Array Slot} {rest : List Value} {Ts : List Cond} (set : Int32) {own : String} {idx nL : Nat} (S : CallFix p m c cc nL s args Ts own) (hG : GoodIn Ts (va_wsS own idx yX1_sizeOf wsX1_sizeOf)) (hR : ({ frames := 0, cells := 0, slots := 0, locals := 0 } : Room).frames + 1 ≤ R.frames ∧ 8 + (3 + 11) + ({ frames := 0, cells := 0, slots := 0, locals := 0 } : Room).locals ≤ R.locals) (hsz : ls.size = nL) (hcap : cells ≤ R.cells ∧ slots ≤ R.slots) (hrm : (rest.map fun v => v.category).sum ≤ 8) (hdg : decode cc pc = .ok (.invokestatic idx, 3)) (kk : W p l e R s m args below meth c H locs cells slots Q (F0 m (pc + 3) ls (.int (m_size set 30) :: rest))) : W p l e R s m args below meth c H locs cells slots Q (F0 m pc ls (.int set :: rest)) :=
  q_call (va_runS (As := [.int set]) (rest := rest) S (c_X1_sizeOf l set) (va_cwS 1 S.2.2.2.2 hG rfl rfl rfl (by decide +kernel) hR) ⟨ty_blind (fun _ _ _ _ h => h), fun U _ _ => ⟨rfl, trivial⟩⟩ rfl rfl hsz rfl (lv_room hrm) hdg hcap) kk

set_option maxHeartbeats 4000000 in
set_option maxRecDepth 100000 in
theorem c_X1_isSubject (l : Launch) (v : Int32) : Met l yX1_isSubject wsX1_isSubject ({ frames := 1, cells := 0, slots := 0, locals := 22 } : Room) (va_Pc ([.int v] : List Value) (fun _ => True)) (q_Q (some (.int (b01 (m_in v 0 11))))) 0 0 q_no := by
  refine q_met (cc := cX1_isSubject) (maxL := 1) (ret := (some .boolean)) (by decide) rfl (Nat.le_of_ble_eq_true rfl) ?_
  intro p e s m below meth c hx hb hml hr hts hown hlocks hB ls hl
  have hown : s.vm.findClass RX1 = some m.cls := hown
  have hl : lv_has ls 1 [(0, .int v)] := hl
  refine lv_iload_n hx hb dX1_isSubject_0 rfl (lv_at hl 0 rfl) ?_
  refine lv_iconst (v := 0) hx hb dX1_isSubject_1 (by decide) ?_
  refine lv_bipush (v := 11) hx hb dX1_isSubject_2 (by decide) ?_
  refine k_X1_in v 0 11 ⟨hx, hb, hml, hown, hts⟩ gX1_isSubject_X1_in ⟨Nat.le_of_ble_eq_true rfl, Nat.le_of_ble_eq_true rfl⟩ hl.1 ⟨Nat.zero_le _, Nat.zero_le _⟩ (Nat.le_of_ble_eq_true rfl) dX1_isSubject_4 ?_
  exact q_zret hx hb hr hlocks (rfl) dX1_isSubject_7
theorem k_X1_isSubject {p : Program} {l : Launch} {e : Env} {R : Room} {s : State} {m : MethodId} {args : Array Value} {below : List Frame} {meth : Method} {c : Code} {H : Heap} {locs : List Loc} {cells slots : Nat} {Q : State → Prop} {cc : ByteArray} {pc : Nat} {ls : Array Slot} {rest : List Value} {Ts : List Cond} (v : Int32) {own : String} {idx nL : Nat} (S : CallFix p m c cc nL s args Ts own) (hG : GoodIn Ts (va_wsS own idx yX1_isSubject wsX1_isSubject)) (hR : ({ frames := 1, cells := 0, slots := 0, locals := 22 } : Room).frames + 1 ≤ R.frames ∧ 8 + (1 + 11) + ({ frames := 1, cells := 0, slots := 0, locals := 22 } : Room).locals ≤ R.locals) (hsz : ls.size = nL) (hcap : cells ≤ R.cells ∧ slots ≤ R.slots) (hrm : (rest.map fun v => v.category).sum ≤ 8) (hdg : decode cc pc = .ok (.invokestatic idx, 3)) (kk : W p l e R s m args below meth c H locs cells slots Q (F0 m (pc + 3) ls (.int (b01 (m_in v 0 11)) :: rest))) : W p l e R s m args below meth c H locs cells slots Q (F0 m pc ls (.int v :: rest)) :=
  q_call (va_runS (As := [.int v]) (rest := rest) S (c_X1_isSubject l v) (va_cwS 1 S.2.2.2.2 hG rfl rfl rfl (by decide +kernel) hR) ⟨ty_blind (fun _ _ _ _ h => h), fun U _ _ => ⟨rfl, trivial⟩⟩ rfl rfl hsz rfl (lv_room hrm) hdg hcap) kk

set_option maxHeartbeats 4000000 in
set_option maxRecDepth 100000 in
theorem c_X1_isPurpose (l : Launch) (D : va_G) (tI tZ tL : ClassId) (h0 : Nat) (ad : Nat → Nat) (σ : ST) (v : Int32) : Met l yX1_isPurpose wsX1_isPurpose ({ frames := 1, cells := 0, slots := 0, locals := 22 } : Room) (va_Pc ([.ref h0, .int v] : List Value) (m_B D tI tZ tL h0 ad σ)) (q_Q (some (.int (b01 (m_in v 0 (σ.1 2 - 1)))))) 0 0 q_no := by
  refine q_met (cc := cX1_isPurpose) (maxL := 2) (ret := (some .boolean)) (by decide) rfl (Nat.le_of_ble_eq_true rfl) ?_
  intro p e s m below meth c hx hb hml hr hts hown hlocks hB ls hl
  have hown : s.vm.findClass RX1 = some m.cls := hown
  obtain ⟨hP, hK⟩ := hB
  have hl : lv_has ls 2 [(0, .ref h0), (1, .int v)] := hl
  have hin : ∀ w ∈ wsX10, w ∈ wsX1_isPurpose := in_X1_isPurpose
  have hl_purposes : ml_purposes ∈ wsX1_isPurpose := by decide +kernel
  refine lv_iload_n hx hb dX1_isPurpose_0 rfl (lv_at hl 1 rfl) ?_
  refine lv_iconst (v := 0) hx hb dX1_isPurpose_1 (by decide) ?_
  refine lv_aload_n hx hb dX1_isPurpose_2 rfl (lv_at hl 0 rfl) ?_
  refine mg_purposes hx hb hts hin hown hK hP hl_purposes dX1_isPurpose_3 ?_
  refine lv_iconst (v := 1) hx hb dX1_isPurpose_6 (by decide) ?_
  refine lv_isub hx hb dX1_isPurpose_7 ?_
  refine k_X1_in v 0 ((σ.1 2) - 1) ⟨hx, hb, hml, hown, hts⟩ gX1_isPurpose_X1_in ⟨Nat.le_of_ble_eq_true rfl, Nat.le_of_ble_eq_true rfl⟩ hl.1 ⟨Nat.zero_le _, Nat.zero_le _⟩ (Nat.le_of_ble_eq_true rfl) dX1_isPurpose_8 ?_
  exact q_zret hx hb hr hlocks (rfl) dX1_isPurpose_11
theorem k_X1_isPurpose {p : Program} {l : Launch} {e : Env} {R : Room} {s : State} {m : MethodId} {args : Array Value} {below : List Frame} {meth : Method} {c : Code} {H : Heap} {locs : List Loc} {cells slots : Nat} {Q : State → Prop} {cc : ByteArray} {pc : Nat} {ls : Array Slot} {rest : List Value} {Ts : List Cond} (D : va_G) (tI tZ tL : ClassId) (h0 : Nat) (ad : Nat → Nat) (σ : ST) (v : Int32) {own : String} {idx nL : Nat} (S : CallFix p m c cc nL s args Ts own) (hG : GoodIn Ts (wsV own idx RX1 yX1_isPurpose wsX1_isPurpose)) (hR : ({ frames := 1, cells := 0, slots := 0, locals := 22 } : Room).frames + 1 ≤ R.frames ∧ 8 + (2 + 11) + ({ frames := 1, cells := 0, slots := 0, locals := 22 } : Room).locals ≤ R.locals) (hsz : ls.size = nL) (hcap : cells ≤ R.cells ∧ slots ≤ R.slots) (hrm : (rest.map fun v => v.category).sum ≤ 8) (hK : va_K D vwCl (kTY tI tZ tL) s) (hP : va_P D vwCl (m_W tI tZ h0 ad σ) H) (hdg : decode cc pc = .ok (.invokevirtual idx, 3)) (kk : W p l e R s m args below meth c H locs cells slots Q (F0 m (pc + 3) ls (.int (b01 (m_in v 0 (σ.1 2 - 1))) :: rest))) : W p l e R s m args below meth c H locs cells slots Q (F0 m pc ls (.int v :: .ref h0 :: rest)) :=
  q_call (va_runV (As := [.int v]) (rest := rest) S (c_X1_isPurpose l D tI tZ tL h0 ad σ v) (cwV 1 S.2.2.2.2 hG rfl rfl rfl (by decide +kernel) hR) (m_pre hK hP) rfl rfl hsz rfl (lv_room hrm) hdg hcap) kk

set_option maxHeartbeats 4000000 in
set_option maxRecDepth 100000 in
theorem c_X1_isRecord (l : Launch) (D : va_G) (tI tZ tL : ClassId) (h0 : Nat) (ad : Nat → Nat) (σ : ST) (v : Int32) : Met l yX1_isRecord wsX1_isRecord ({ frames := 1, cells := 0, slots := 0, locals := 22 } : Room) (va_Pc ([.ref h0, .int v] : List Value) (m_B D tI tZ tL h0 ad σ)) (q_Q (some (.int (b01 (m_in v 0 (σ.1 7 - 1)))))) 0 0 q_no := by
  refine q_met (cc := cX1_isRecord) (maxL := 2) (ret := (some .boolean)) (by decide) rfl (Nat.le_of_ble_eq_true rfl) ?_
  intro p e s m below meth c hx hb hml hr hts hown hlocks hB ls hl
  have hown : s.vm.findClass RX1 = some m.cls := hown
  obtain ⟨hP, hK⟩ := hB
  have hl : lv_has ls 2 [(0, .ref h0), (1, .int v)] := hl
  have hin : ∀ w ∈ wsX10, w ∈ wsX1_isRecord := in_X1_isRecord
  have hl_many : ml_many ∈ wsX1_isRecord := by decide +kernel
  refine lv_iload_n hx hb dX1_isRecord_0 rfl (lv_at hl 1 rfl) ?_
  refine lv_iconst (v := 0) hx hb dX1_isRecord_1 (by decide) ?_
  refine lv_aload_n hx hb dX1_isRecord_2 rfl (lv_at hl 0 rfl) ?_
  refine mg_many hx hb hts hin hown hK hP hl_many dX1_isRecord_3 ?_
  refine lv_iconst (v := 1) hx hb dX1_isRecord_6 (by decide) ?_
  refine lv_isub hx hb dX1_isRecord_7 ?_
  refine k_X1_in v 0 ((σ.1 7) - 1) ⟨hx, hb, hml, hown, hts⟩ gX1_isRecord_X1_in ⟨Nat.le_of_ble_eq_true rfl, Nat.le_of_ble_eq_true rfl⟩ hl.1 ⟨Nat.zero_le _, Nat.zero_le _⟩ (Nat.le_of_ble_eq_true rfl) dX1_isRecord_8 ?_
  exact q_zret hx hb hr hlocks (rfl) dX1_isRecord_11
theorem k_X1_isRecord {p : Program} {l : Launch} {e : Env} {R : Room} {s : State} {m : MethodId} {args : Array Value} {below : List Frame} {meth : Method} {c : Code} {H : Heap} {locs : List Loc} {cells slots : Nat} {Q : State → Prop} {cc : ByteArray} {pc : Nat} {ls : Array Slot} {rest : List Value} {Ts : List Cond} (D : va_G) (tI tZ tL : ClassId) (h0 : Nat) (ad : Nat → Nat) (σ : ST) (v : Int32) {own : String} {idx nL : Nat} (S : CallFix p m c cc nL s args Ts own) (hG : GoodIn Ts (wsV own idx RX1 yX1_isRecord wsX1_isRecord)) (hR : ({ frames := 1, cells := 0, slots := 0, locals := 22 } : Room).frames + 1 ≤ R.frames ∧ 8 + (2 + 11) + ({ frames := 1, cells := 0, slots := 0, locals := 22 } : Room).locals ≤ R.locals) (hsz : ls.size = nL) (hcap : cells ≤ R.cells ∧ slots ≤ R.slots) (hrm : (rest.map fun v => v.category).sum ≤ 8) (hK : va_K D vwCl (kTY tI tZ tL) s) (hP : va_P D vwCl (m_W tI tZ h0 ad σ) H) (hdg : decode cc pc = .ok (.invokevirtual idx, 3)) (kk : W p l e R s m args below meth c H locs cells slots Q (F0 m (pc + 3) ls (.int (b01 (m_in v 0 (σ.1 7 - 1))) :: rest))) : W p l e R s m args below meth c H locs cells slots Q (F0 m pc ls (.int v :: .ref h0 :: rest)) :=
  q_call (va_runV (As := [.int v]) (rest := rest) S (c_X1_isRecord l D tI tZ tL h0 ad σ v) (cwV 1 S.2.2.2.2 hG rfl rfl rfl (by decide +kernel) hR) (m_pre hK hP) rfl rfl hsz rfl (lv_room hrm) hdg hcap) kk

set_option maxHeartbeats 4000000 in
set_option maxRecDepth 100000 in
theorem c_X1_isSet (l : Launch) (D : va_G) (tI tZ tL : ClassId) (h0 : Nat) (ad : Nat → Nat) (σ : ST) (v : Int32) : Met l yX1_isSet wsX1_isSet ({ frames := 1, cells := 0, slots := 0, locals := 22 } : Room) (va_Pc ([.ref h0, .int v] : List Value) (m_B D tI tZ tL h0 ad σ)) (q_Q (some (.int (b01 (m_in v 0 ((1 : Int32) <<< (σ.1 2 &&& 31) - 1)))))) 0 0 q_no := by
  refine q_met (cc := cX1_isSet) (maxL := 2) (ret := (some .boolean)) (by decide) rfl (Nat.le_of_ble_eq_true rfl) ?_
  intro p e s m below meth c hx hb hml hr hts hown hlocks hB ls hl
  have hown : s.vm.findClass RX1 = some m.cls := hown
  obtain ⟨hP, hK⟩ := hB
  have hl : lv_has ls 2 [(0, .ref h0), (1, .int v)] := hl
  have hin : ∀ w ∈ wsX10, w ∈ wsX1_isSet := in_X1_isSet
  have hl_purposes : ml_purposes ∈ wsX1_isSet := by decide +kernel
  refine lv_iload_n hx hb dX1_isSet_0 rfl (lv_at hl 1 rfl) ?_
  refine lv_iconst (v := 0) hx hb dX1_isSet_1 (by decide) ?_
  refine lv_iconst (v := 1) hx hb dX1_isSet_2 (by decide) ?_
  refine lv_aload_n hx hb dX1_isSet_3 rfl (lv_at hl 0 rfl) ?_
  refine mg_purposes hx hb hts hin hown hK hP hl_purposes dX1_isSet_4 ?_
  refine lv_ishl hx hb dX1_isSet_7 ?_
  refine lv_iconst (v := 1) hx hb dX1_isSet_8 (by decide) ?_
  refine lv_isub hx hb dX1_isSet_9 ?_
  refine k_X1_in v 0 ((1 <<< ((σ.1 2) &&& 31)) - 1) ⟨hx, hb, hml, hown, hts⟩ gX1_isSet_X1_in ⟨Nat.le_of_ble_eq_true rfl, Nat.le_of_ble_eq_true rfl⟩ hl.1 ⟨Nat.zero_le _, Nat.zero_le _⟩ (Nat.le_of_ble_eq_true rfl) dX1_isSet_10 ?_
  exact q_zret hx hb hr hlocks (rfl) dX1_isSet_13
theorem k_X1_isSet {p : Program} {l : Launch} {e : Env} {R : Room} {s : State} {m : MethodId} {args : Array Value} {below : List Frame} {meth : Method} {c : Code} {H : Heap} {locs : List Loc} {cells slots : Nat} {Q : State → Prop} {cc : ByteArray} {pc : Nat} {ls : Array Slot} {rest : List Value} {Ts : List Cond} (D : va_G) (tI tZ tL : ClassId) (h0 : Nat) (ad : Nat → Nat) (σ : ST) (v : Int32) {own : String} {idx nL : Nat} (S : CallFix p m c cc nL s args Ts own) (hG : GoodIn Ts (wsV own idx RX1 yX1_isSet wsX1_isSet)) (hR : ({ frames := 1, cells := 0, slots := 0, locals := 22 } : Room).frames + 1 ≤ R.frames ∧ 8 + (2 + 11) + ({ frames := 1, cells := 0, slots := 0, locals := 22 } : Room).locals ≤ R.locals) (hsz : ls.size = nL) (hcap : cells ≤ R.cells ∧ slots ≤ R.slots) (hrm : (rest.map fun v => v.category).sum ≤ 8) (hK : va_K D vwCl (kTY tI tZ tL) s) (hP : va_P D vwCl (m_W tI tZ h0 ad σ) H) (hdg : decode cc pc = .ok (.invokevirtual idx, 3)) (kk : W p l e R s m args below meth c H locs cells slots Q (F0 m (pc + 3) ls (.int (b01 (m_in v 0 ((1 : Int32) <<< (σ.1 2 &&& 31) - 1))) :: rest))) : W p l e R s m args below meth c H locs cells slots Q (F0 m pc ls (.int v :: .ref h0 :: rest)) :=
  q_call (va_runV (As := [.int v]) (rest := rest) S (c_X1_isSet l D tI tZ tL h0 ad σ v) (cwV 1 S.2.2.2.2 hG rfl rfl rfl (by decide +kernel) hR) (m_pre hK hP) rfl rfl hsz rfl (lv_room hrm) hdg hcap) kk

set_option maxHeartbeats 4000000 in
set_option maxRecDepth 100000 in
theorem c_X1_aboveOf (l : Launch) (D : va_G) (tI tZ tL : ClassId) (h0 : Nat) (ad : Nat → Nat) (σ : ST) (r : Nat) (hr30 : r < 30) : Met l yX1_aboveOf wsX1_aboveOf ({ frames := 1, cells := 0, slots := 0, locals := 21 } : Room) (va_Pc ([.ref h0, .int (nI r)] : List Value) (m_B D tI tZ tL h0 ad σ)) (q_Q (some (.int (m_dn (σ.2 9) r (σ.2 9 r))))) 0 0 q_no := by
  refine q_met (cc := cX1_aboveOf) (maxL := 4) (ret := (some .int)) (by decide) rfl (Nat.le_of_ble_eq_true rfl) ?_
  intro p e s m below meth c hx hb hml hr hts hown hlocks hB ls hl
  have hown : s.vm.findClass RX1 = some m.cls := hown
  obtain ⟨hP, hK⟩ := hB
  have hl : lv_has ls 4 [(0, .ref h0), (1, .int (nI r))] := hl
  have hin : ∀ w ∈ wsX10, w ∈ wsX1_aboveOf := in_X1_aboveOf
  have hl_sources : ml_sources ∈ wsX1_aboveOf := by decide +kernel
  refine lv_aload_n hx hb dX1_aboveOf_0 rfl (lv_at hl 0 rfl) ?_
  refine mg_sources hx hb hts hin hown hK hP hl_sources dX1_aboveOf_1 ?_
  refine lv_iload_n hx hb dX1_aboveOf_4 rfl (lv_at hl 1 rfl) ?_
  refine mr_sources (j := r) hx hb hK hP (by omega) dX1_aboveOf_5 ?_
  refine lv_istore_n (lv' := [(2, .int (σ.2 9 r)), (0, .ref h0), (1, .int (nI r))]) hx hb dX1_aboveOf_6 rfl hl (by decide) rfl (fun ls hl => ?_)
  refine lv_iload_n hx hb dX1_aboveOf_7 rfl (lv_at hl 2 rfl) ?_
  refine lv_iconst (v := 1) hx hb dX1_aboveOf_8 (by decide) ?_
  refine lv_isub hx hb dX1_aboveOf_9 ?_
  refine lv_istore_n (lv' := [(3, .int ((nI r) - 1)), (2, .int (σ.2 9 r)), (0, .ref h0), (1, .int (nI r))]) hx hb dX1_aboveOf_10 rfl hl (by decide) rfl (fun ls hl => ?_)
  have loop11 : ∀ (k : Nat), k ≤ r → ∀ (v : Int32), (hT : m_dn (σ.2 9) k v = m_dn (σ.2 9) r (σ.2 9 r)) → ∀ ls, lv_has ls 4 [(0, .ref h0), (2, .int v), (3, .int (nI k - 1))] → q_G p l e ({ frames := 1, cells := 0, slots := 0, locals := 21 } : Room) s m ([.ref h0, .int (nI r)] : List Value).toArray below meth c (some (.int (m_dn (σ.2 9) r (σ.2 9 r)))) (F0 m 11 ls []) := by
    intro k
    induction k with
    | zero =>
      intro hk_k v hT ls hl
      refine lv_iload_n hx hb dX1_aboveOf_11 rfl (lv_at hl 2 rfl) ?_
      refine lv_if_lt (tgt := 42) hx hb dX1_aboveOf_12 (by decide) (fun c12 => ?_) (fun c12 => absurd (show nI 0 - 1 < 0 by decide) c12)
      refine lv_iload_n hx hb dX1_aboveOf_42 rfl (lv_at hl 1 rfl) ?_
      exact q_iret hx hb hr hlocks (by rw [← hT]; rfl) dX1_aboveOf_43
    | succ k ihk =>
      intro hk_k v hT ls hl
      have hl : lv_has ls 4 [(0, .ref h0), (2, .int v), (3, .int (nI k))] := (lv_to (L := [(0, .ref h0), (2, .int v), (3, .int (nI (k + 1) - 1))]) (lv_sub hl [0, 1, 2] rfl) (lv_cr (lv_cr (lv_ci (nI_pred k) rfl))))
      refine lv_iload_n hx hb dX1_aboveOf_11 rfl (lv_at hl 2 rfl) ?_
      refine lv_if_lt (tgt := 42) hx hb dX1_aboveOf_12 (by decide) (fun c12 => absurd c12 (nI_pos (by omega))) (fun c12 => ?_)
      refine lv_iload_n hx hb dX1_aboveOf_15 rfl (lv_at hl 1 rfl) ?_
      refine lv_iload_n hx hb dX1_aboveOf_16 rfl (lv_at hl 1 rfl) ?_
      refine lv_iload_n hx hb dX1_aboveOf_17 rfl (lv_at hl 2 rfl) ?_
      refine k_X1_has v k (by omega) ⟨hx, hb, hml, hown, hts⟩ gX1_aboveOf_X1_has ⟨Nat.le_of_ble_eq_true rfl, Nat.le_of_ble_eq_true rfl⟩ hl.1 ⟨Nat.zero_le _, Nat.zero_le _⟩ (Nat.le_of_ble_eq_true rfl) dX1_aboveOf_18 ?_
      refine lv_ifeq_b (tgt := 33) hx hb dX1_aboveOf_21 (by decide) (fun c21 => ?_) (fun c21 => ?_)
      · refine lv_iconst (v := 0) hx hb dX1_aboveOf_33 (by decide) ?_
        refine lv_ior hx hb dX1_aboveOf_34 ?_
        refine lv_istore_n (lv' := [(2, .int (v ||| 0)), (0, .ref h0), (3, .int (nI k))]) hx hb dX1_aboveOf_35 rfl hl (by decide) rfl (fun ls hl => ?_)
        refine lv_iinc (v := (nI k) + (-1)) (lv' := [(3, .int ((nI k) + (-1))), (2, .int (v ||| 0)), (0, .ref h0)]) hx hb dX1_aboveOf_36 hl (k := 2) rfl rfl (by decide) rfl (fun ls hl => ?_)
        refine lv_goto (tgt := 11) hx hb dX1_aboveOf_39 (by decide) ?_
        exact ihk (by omega) (v ||| 0) (by rw [or0, ← hT, m_dn, if_neg (by rw [c21]; decide)]) _ (lv_to (L := [(0, .ref h0), (2, .int (v ||| 0)), (3, .int ((nI k) + (-1)))]) (lv_sub hl [2, 1, 0] rfl) (lv_cr (lv_cr (lv_ci (sub1 _) rfl))))
      · refine lv_aload_n hx hb dX1_aboveOf_24 rfl (lv_at hl 0 rfl) ?_
        refine mg_sources hx hb hts hin hown hK hP hl_sources dX1_aboveOf_25 ?_
        refine lv_iload_n hx hb dX1_aboveOf_28 rfl (lv_at hl 2 rfl) ?_
        refine mr_sources (j := k) hx hb hK hP (by omega) dX1_aboveOf_29 ?_
        refine lv_goto (tgt := 34) hx hb dX1_aboveOf_30 (by decide) ?_
        refine lv_ior hx hb dX1_aboveOf_34 ?_
        refine lv_istore_n (lv' := [(2, .int (v ||| (σ.2 9 k))), (0, .ref h0), (3, .int (nI k))]) hx hb dX1_aboveOf_35 rfl hl (by decide) rfl (fun ls hl => ?_)
        refine lv_iinc (v := (nI k) + (-1)) (lv' := [(3, .int ((nI k) + (-1))), (2, .int (v ||| (σ.2 9 k))), (0, .ref h0)]) hx hb dX1_aboveOf_36 hl (k := 2) rfl rfl (by decide) rfl (fun ls hl => ?_)
        refine lv_goto (tgt := 11) hx hb dX1_aboveOf_39 (by decide) ?_
        exact ihk (by omega) (v ||| (σ.2 9 k)) (by rw [← hT, m_dn, if_pos c21]) _ (lv_to (L := [(0, .ref h0), (2, .int (v ||| (σ.2 9 k))), (3, .int ((nI k) + (-1)))]) (lv_sub hl [2, 1, 0] rfl) (lv_cr (lv_cr (lv_ci (sub1 _) rfl))))
  exact loop11 r (by omega) (σ.2 9 r) (rfl) _ (lv_to (L := [(0, .ref h0), (2, .int (σ.2 9 r)), (3, .int ((nI r) - 1))]) (lv_sub hl [2, 1, 0] rfl) (lv_cr (lv_cr (lv_ci (rfl) rfl))))
theorem k_X1_aboveOf {p : Program} {l : Launch} {e : Env} {R : Room} {s : State} {m : MethodId} {args : Array Value} {below : List Frame} {meth : Method} {c : Code} {H : Heap} {locs : List Loc} {cells slots : Nat} {Q : State → Prop} {cc : ByteArray} {pc : Nat} {ls : Array Slot} {rest : List Value} {Ts : List Cond} (D : va_G) (tI tZ tL : ClassId) (h0 : Nat) (ad : Nat → Nat) (σ : ST) (r : Nat) (hr30 : r < 30) {own : String} {idx nL : Nat} (S : CallFix p m c cc nL s args Ts own) (hG : GoodIn Ts (wsV own idx RX1 yX1_aboveOf wsX1_aboveOf)) (hR : ({ frames := 1, cells := 0, slots := 0, locals := 21 } : Room).frames + 1 ≤ R.frames ∧ 8 + (4 + 11) + ({ frames := 1, cells := 0, slots := 0, locals := 21 } : Room).locals ≤ R.locals) (hsz : ls.size = nL) (hcap : cells ≤ R.cells ∧ slots ≤ R.slots) (hrm : (rest.map fun v => v.category).sum ≤ 8) (hK : va_K D vwCl (kTY tI tZ tL) s) (hP : va_P D vwCl (m_W tI tZ h0 ad σ) H) (hdg : decode cc pc = .ok (.invokevirtual idx, 3)) (kk : W p l e R s m args below meth c H locs cells slots Q (F0 m (pc + 3) ls (.int (m_dn (σ.2 9) r (σ.2 9 r)) :: rest))) : W p l e R s m args below meth c H locs cells slots Q (F0 m pc ls (.int (nI r) :: .ref h0 :: rest)) :=
  q_call (va_runV (As := [.int (nI r)]) (rest := rest) S (c_X1_aboveOf l D tI tZ tL h0 ad σ r hr30) (cwV 1 S.2.2.2.2 hG rfl rfl rfl (by decide +kernel) hR) (m_pre hK hP) rfl rfl hsz rfl (lv_room hrm) hdg hcap) kk

set_option maxHeartbeats 4000000 in
set_option maxRecDepth 100000 in
theorem c_X1_subjects (l : Launch) (D : va_G) (tI tZ tL : ClassId) (h0 : Nat) (ad : Nat → Nat) (σ : ST) (r : Nat) (hr30 : r < 30) : Met l yX1_subjects wsX1_subjects ({ frames := 2, cells := 0, slots := 0, locals := 44 } : Room) (va_Pc ([.ref h0, .int (nI r)] : List Value) (m_B D tI tZ tL h0 ad σ)) (q_Q (some (.int (m_subj σ.2 r)))) 0 0 q_no := by
  refine q_met (cc := cX1_subjects) (maxL := 5) (ret := (some .int)) (by decide) rfl (Nat.le_of_ble_eq_true rfl) ?_
  intro p e s m below meth c hx hb hml hr hts hown hlocks hB ls hl
  have hown : s.vm.findClass RX1 = some m.cls := hown
  obtain ⟨hP, hK⟩ := hB
  have hl : lv_has ls 5 [(0, .ref h0), (1, .int (nI r))] := hl
  have hin : ∀ w ∈ wsX10, w ∈ wsX1_subjects := in_X1_subjects
  have hl_root : ml_root ∈ wsX1_subjects := by decide +kernel
  have hl_sources : ml_sources ∈ wsX1_subjects := by decide +kernel
  refine lv_aload_n hx hb dX1_subjects_0 rfl (lv_at hl 0 rfl) ?_
  refine mg_sources hx hb hts hin hown hK hP hl_sources dX1_subjects_1 ?_
  refine lv_iload_n hx hb dX1_subjects_4 rfl (lv_at hl 1 rfl) ?_
  refine mr_sources (j := r) hx hb hK hP (by omega) dX1_subjects_5 ?_
  refine lv_if_ne (tgt := 18) hx hb dX1_subjects_6 (by decide) (fun c6 => ?_) (fun c6 => ?_)
  · refine lv_iconst (v := 0) hx hb dX1_subjects_18 (by decide) ?_
    refine lv_istore_n (lv' := [(2, .int 0), (0, .ref h0), (1, .int (nI r))]) hx hb dX1_subjects_19 rfl hl (by decide) rfl (fun ls hl => ?_)
    refine lv_aload_n hx hb dX1_subjects_20 rfl (lv_at hl 1 rfl) ?_
    refine lv_iload_n hx hb dX1_subjects_21 rfl (lv_at hl 2 rfl) ?_
    refine k_X1_aboveOf D tI tZ tL h0 ad σ r hr30 ⟨hx, hb, hml, hown, hts⟩ gX1_subjects_X1_aboveOf ⟨Nat.le_of_ble_eq_true rfl, Nat.le_of_ble_eq_true rfl⟩ hl.1 ⟨Nat.zero_le _, Nat.zero_le _⟩ (Nat.le_of_ble_eq_true rfl) hK hP dX1_subjects_22 ?_
    refine lv_istore_n (lv' := [(3, .int (m_dn (σ.2 9) r (σ.2 9 r))), (2, .int 0), (0, .ref h0), (1, .int (nI r))]) hx hb dX1_subjects_25 rfl hl (by decide) rfl (fun ls hl => ?_)
    refine lv_iconst (v := 0) hx hb dX1_subjects_26 (by decide) ?_
    refine lv_istore (lv' := [(4, .int 0), (3, .int (m_dn (σ.2 9) r (σ.2 9 r))), (2, .int 0), (0, .ref h0), (1, .int (nI r))]) hx hb dX1_subjects_27 hl (by decide) rfl (fun ls hl => ?_)
    have loop29 : ∀ (n k : Nat), k ≤ r → r + 1 ≤ k + n → ∀ ls, lv_has ls 5 [(0, .ref h0), (1, .int (nI r)), (2, .int (m_sbj (σ.2 9) (σ.2 8) (m_dn (σ.2 9) r (σ.2 9 r)) k)), (3, .int (m_dn (σ.2 9) r (σ.2 9 r))), (4, .int (nI k))] → q_G p l e ({ frames := 2, cells := 0, slots := 0, locals := 44 } : Room) s m ([.ref h0, .int (nI r)] : List Value).toArray below meth c (some (.int (m_subj σ.2 r))) (F0 m 29 ls []) := by
      intro n
      induction n with
      | zero => intro k h1 h2; omega
      | succ n ihk =>
        intro k hk_k hn_k   ls hl
        refine lv_iload hx hb dX1_subjects_29 (lv_at hl 4 rfl) ?_
        refine lv_iload_n hx hb dX1_subjects_31 rfl (lv_at hl 1 rfl) ?_
        refine lv_icmp_ge (tgt := 76) hx hb dX1_subjects_32 (by decide) (fun c32 => ?_) (fun c32 => ?_)
        · have hkn : k = r := Nat.le_antisymm hk_k (ge_t (n := r) rfl (by omega) (by omega) c32)
          refine lv_iload_n hx hb dX1_subjects_76 rfl (lv_at hl 2 rfl) ?_
          exact q_iret hx hb hr hlocks (by rw [hkn, m_subj, if_neg c6]) dX1_subjects_77
        · have hkn : k < r := ge_f (n := r) rfl (by omega) c32
          refine lv_iload_n hx hb dX1_subjects_35 rfl (lv_at hl 2 rfl) ?_
          refine lv_iload_n hx hb dX1_subjects_36 rfl (lv_at hl 3 rfl) ?_
          refine lv_iload hx hb dX1_subjects_37 (lv_at hl 4 rfl) ?_
          refine k_X1_has (m_dn (σ.2 9) r (σ.2 9 r)) k (by omega) ⟨hx, hb, hml, hown, hts⟩ gX1_subjects_X1_has ⟨Nat.le_of_ble_eq_true rfl, Nat.le_of_ble_eq_true rfl⟩ hl.1 ⟨Nat.zero_le _, Nat.zero_le _⟩ (Nat.le_of_ble_eq_true rfl) dX1_subjects_39 ?_
          refine lv_ifeq_b (tgt := 67) hx hb dX1_subjects_42 (by decide) (fun c42 => ?_) (fun c42 => ?_)
          · refine lv_iconst (v := 0) hx hb dX1_subjects_67 (by decide) ?_
            refine lv_ior hx hb dX1_subjects_68 ?_
            refine lv_istore_n (lv' := [(2, .int ((m_sbj (σ.2 9) (σ.2 8) (m_dn (σ.2 9) r (σ.2 9 r)) k) ||| 0)), (0, .ref h0), (1, .int (nI r)), (3, .int (m_dn (σ.2 9) r (σ.2 9 r))), (4, .int (nI k))]) hx hb dX1_subjects_69 rfl hl (by decide) rfl (fun ls hl => ?_)
            refine lv_iinc (v := (nI k) + 1) (lv' := [(4, .int ((nI k) + 1)), (2, .int ((m_sbj (σ.2 9) (σ.2 8) (m_dn (σ.2 9) r (σ.2 9 r)) k) ||| 0)), (0, .ref h0), (1, .int (nI r)), (3, .int (m_dn (σ.2 9) r (σ.2 9 r)))]) hx hb dX1_subjects_70 hl (k := 4) rfl rfl (by decide) rfl (fun ls hl => ?_)
            refine lv_goto (tgt := 29) hx hb dX1_subjects_73 (by decide) ?_
            exact ihk (k + 1) (by omega) (by omega)   _ (lv_to (L := [(0, .ref h0), (1, .int (nI r)), (2, .int ((m_sbj (σ.2 9) (σ.2 8) (m_dn (σ.2 9) r (σ.2 9 r)) k) ||| 0)), (3, .int (m_dn (σ.2 9) r (σ.2 9 r))), (4, .int ((nI k) + 1))]) (lv_sub hl [2, 3, 1, 4, 0] rfl) (lv_cr (lv_cr (lv_ci (by rw [or0, m_sbj, if_neg (fun h => by rw [c42] at h; cases h.1)]) (lv_cr (lv_ci (nI_1 k) rfl))))))
          · refine lv_aload_n hx hb dX1_subjects_45 rfl (lv_at hl 0 rfl) ?_
            refine mg_sources hx hb hts hin hown hK hP hl_sources dX1_subjects_46 ?_
            refine lv_iload hx hb dX1_subjects_49 (lv_at hl 4 rfl) ?_
            refine mr_sources (j := k) hx hb hK hP (by omega) dX1_subjects_51 ?_
            refine lv_if_ne (tgt := 67) hx hb dX1_subjects_52 (by decide) (fun c52 => ?_) (fun c52 => ?_)
            · refine lv_iconst (v := 0) hx hb dX1_subjects_67 (by decide) ?_
              refine lv_ior hx hb dX1_subjects_68 ?_
              refine lv_istore_n (lv' := [(2, .int ((m_sbj (σ.2 9) (σ.2 8) (m_dn (σ.2 9) r (σ.2 9 r)) k) ||| 0)), (0, .ref h0), (1, .int (nI r)), (3, .int (m_dn (σ.2 9) r (σ.2 9 r))), (4, .int (nI k))]) hx hb dX1_subjects_69 rfl hl (by decide) rfl (fun ls hl => ?_)
              refine lv_iinc (v := (nI k) + 1) (lv' := [(4, .int ((nI k) + 1)), (2, .int ((m_sbj (σ.2 9) (σ.2 8) (m_dn (σ.2 9) r (σ.2 9 r)) k) ||| 0)), (0, .ref h0), (1, .int (nI r)), (3, .int (m_dn (σ.2 9) r (σ.2 9 r)))]) hx hb dX1_subjects_70 hl (k := 4) rfl rfl (by decide) rfl (fun ls hl => ?_)
              refine lv_goto (tgt := 29) hx hb dX1_subjects_73 (by decide) ?_
              exact ihk (k + 1) (by omega) (by omega)   _ (lv_to (L := [(0, .ref h0), (1, .int (nI r)), (2, .int ((m_sbj (σ.2 9) (σ.2 8) (m_dn (σ.2 9) r (σ.2 9 r)) k) ||| 0)), (3, .int (m_dn (σ.2 9) r (σ.2 9 r))), (4, .int ((nI k) + 1))]) (lv_sub hl [2, 3, 1, 4, 0] rfl) (lv_cr (lv_cr (lv_ci (by rw [or0, m_sbj, if_neg (fun h => c52 h.2)]) (lv_cr (lv_ci (nI_1 k) rfl))))))
            · refine lv_iconst (v := 1) hx hb dX1_subjects_55 (by decide) ?_
              refine lv_aload_n hx hb dX1_subjects_56 rfl (lv_at hl 0 rfl) ?_
              refine mg_root hx hb hts hin hown hK hP hl_root dX1_subjects_57 ?_
              refine lv_iload hx hb dX1_subjects_60 (lv_at hl 4 rfl) ?_
              refine mr_root (j := k) hx hb hK hP (by omega) dX1_subjects_62 ?_
              refine lv_ishl hx hb dX1_subjects_63 ?_
              refine lv_goto (tgt := 68) hx hb dX1_subjects_64 (by decide) ?_
              refine lv_ior hx hb dX1_subjects_68 ?_
              refine lv_istore_n (lv' := [(2, .int ((m_sbj (σ.2 9) (σ.2 8) (m_dn (σ.2 9) r (σ.2 9 r)) k) ||| (1 <<< ((σ.2 8 k) &&& 31)))), (0, .ref h0), (1, .int (nI r)), (3, .int (m_dn (σ.2 9) r (σ.2 9 r))), (4, .int (nI k))]) hx hb dX1_subjects_69 rfl hl (by decide) rfl (fun ls hl => ?_)
              refine lv_iinc (v := (nI k) + 1) (lv' := [(4, .int ((nI k) + 1)), (2, .int ((m_sbj (σ.2 9) (σ.2 8) (m_dn (σ.2 9) r (σ.2 9 r)) k) ||| (1 <<< ((σ.2 8 k) &&& 31)))), (0, .ref h0), (1, .int (nI r)), (3, .int (m_dn (σ.2 9) r (σ.2 9 r)))]) hx hb dX1_subjects_70 hl (k := 4) rfl rfl (by decide) rfl (fun ls hl => ?_)
              refine lv_goto (tgt := 29) hx hb dX1_subjects_73 (by decide) ?_
              exact ihk (k + 1) (by omega) (by omega)   _ (lv_to (L := [(0, .ref h0), (1, .int (nI r)), (2, .int ((m_sbj (σ.2 9) (σ.2 8) (m_dn (σ.2 9) r (σ.2 9 r)) k) ||| (1 <<< ((σ.2 8 k) &&& 31)))), (3, .int (m_dn (σ.2 9) r (σ.2 9 r))), (4, .int ((nI k) + 1))]) (lv_sub hl [2, 3, 1, 4, 0] rfl) (lv_cr (lv_cr (lv_ci (by rw [m_sbj, if_pos ⟨c42, c52⟩]) (lv_cr (lv_ci (nI_1 k) rfl))))))
    exact loop29 (r + 1) 0 (by omega) (by omega)   _ (lv_to (L := [(0, .ref h0), (1, .int (nI r)), (2, .int 0), (3, .int (m_dn (σ.2 9) r (σ.2 9 r))), (4, .int 0)]) (lv_sub hl [3, 4, 2, 1, 0] rfl) (lv_cr (lv_cr (lv_ci (rfl) (lv_cr (lv_ci (rfl) rfl))))))
  · refine lv_iconst (v := 1) hx hb dX1_subjects_9 (by decide) ?_
    refine lv_aload_n hx hb dX1_subjects_10 rfl (lv_at hl 0 rfl) ?_
    refine mg_root hx hb hts hin hown hK hP hl_root dX1_subjects_11 ?_
    refine lv_iload_n hx hb dX1_subjects_14 rfl (lv_at hl 1 rfl) ?_
    refine mr_root (j := r) hx hb hK hP (by omega) dX1_subjects_15 ?_
    refine lv_ishl hx hb dX1_subjects_16 ?_
    exact q_iret hx hb hr hlocks (by rw [m_subj, if_pos c6]) dX1_subjects_17
theorem k_X1_subjects {p : Program} {l : Launch} {e : Env} {R : Room} {s : State} {m : MethodId} {args : Array Value} {below : List Frame} {meth : Method} {c : Code} {H : Heap} {locs : List Loc} {cells slots : Nat} {Q : State → Prop} {cc : ByteArray} {pc : Nat} {ls : Array Slot} {rest : List Value} {Ts : List Cond} (D : va_G) (tI tZ tL : ClassId) (h0 : Nat) (ad : Nat → Nat) (σ : ST) (r : Nat) (hr30 : r < 30) {own : String} {idx nL : Nat} (S : CallFix p m c cc nL s args Ts own) (hG : GoodIn Ts (wsV own idx RX1 yX1_subjects wsX1_subjects)) (hR : ({ frames := 2, cells := 0, slots := 0, locals := 44 } : Room).frames + 1 ≤ R.frames ∧ 8 + (5 + 11) + ({ frames := 2, cells := 0, slots := 0, locals := 44 } : Room).locals ≤ R.locals) (hsz : ls.size = nL) (hcap : cells ≤ R.cells ∧ slots ≤ R.slots) (hrm : (rest.map fun v => v.category).sum ≤ 8) (hK : va_K D vwCl (kTY tI tZ tL) s) (hP : va_P D vwCl (m_W tI tZ h0 ad σ) H) (hdg : decode cc pc = .ok (.invokevirtual idx, 3)) (kk : W p l e R s m args below meth c H locs cells slots Q (F0 m (pc + 3) ls (.int (m_subj σ.2 r) :: rest))) : W p l e R s m args below meth c H locs cells slots Q (F0 m pc ls (.int (nI r) :: .ref h0 :: rest)) :=
  q_call (va_runV (As := [.int (nI r)]) (rest := rest) S (c_X1_subjects l D tI tZ tL h0 ad σ r hr30) (cwV 1 S.2.2.2.2 hG rfl rfl rfl (by decide +kernel) hR) (m_pre hK hP) rfl rfl hsz rfl (lv_room hrm) hdg hcap) kk

set_option maxHeartbeats 4000000 in
set_option maxRecDepth 100000 in
theorem c_X1_belowOf (l : Launch) (D : va_G) (tI tZ tL : ClassId) (h0 : Nat) (ad : Nat → Nat) (σ : ST) (r : Nat) (nr : Nat) (hnr : σ.1 7 = nI nr) (hn30 : nr ≤ 30) (hrn : r < nr) : Met l yX1_belowOf wsX1_belowOf ({ frames := 1, cells := 0, slots := 0, locals := 21 } : Room) (va_Pc ([.ref h0, .int (nI r)] : List Value) (m_B D tI tZ tL h0 ad σ)) (q_Q (some (.int (m_belk (σ.2 9) r nr)))) 0 0 q_no := by
  refine q_met (cc := cX1_belowOf) (maxL := 4) (ret := (some .int)) (by decide) rfl (Nat.le_of_ble_eq_true rfl) ?_
  intro p e s m below meth c hx hb hml hr hts hown hlocks hB ls hl
  have hown : s.vm.findClass RX1 = some m.cls := hown
  obtain ⟨hP, hK⟩ := hB
  have hl : lv_has ls 4 [(0, .ref h0), (1, .int (nI r))] := hl
  have hin : ∀ w ∈ wsX10, w ∈ wsX1_belowOf := in_X1_belowOf
  have hl_many : ml_many ∈ wsX1_belowOf := by decide +kernel
  have hl_sources : ml_sources ∈ wsX1_belowOf := by decide +kernel
  refine lv_iconst (v := 0) hx hb dX1_belowOf_0 (by decide) ?_
  refine lv_istore_n (lv' := [(2, .int 0), (0, .ref h0), (1, .int (nI r))]) hx hb dX1_belowOf_1 rfl hl (by decide) rfl (fun ls hl => ?_)
  refine lv_iload_n hx hb dX1_belowOf_2 rfl (lv_at hl 2 rfl) ?_
  refine lv_iconst (v := 1) hx hb dX1_belowOf_3 (by decide) ?_
  refine lv_iadd hx hb dX1_belowOf_4 ?_
  refine lv_istore_n (lv' := [(3, .int ((nI r) + 1)), (2, .int 0), (0, .ref h0), (1, .int (nI r))]) hx hb dX1_belowOf_5 rfl hl (by decide) rfl (fun ls hl => ?_)
  have loop6 : ∀ (n k : Nat), k ≤ nr → nr + 1 ≤ k + n → (hrk : r + 1 ≤ k) → ∀ ls, lv_has ls 4 [(0, .ref h0), (1, .int (nI r)), (2, .int (m_belk (σ.2 9) r k)), (3, .int (nI k))] → q_G p l e ({ frames := 1, cells := 0, slots := 0, locals := 21 } : Room) s m ([.ref h0, .int (nI r)] : List Value).toArray below meth c (some (.int (m_belk (σ.2 9) r nr))) (F0 m 6 ls []) := by
    intro n
    induction n with
    | zero => intro k h1 h2; omega
    | succ n ihk =>
      intro k hk_k hn_k  hrk ls hl
      refine lv_iload_n hx hb dX1_belowOf_6 rfl (lv_at hl 3 rfl) ?_
      refine lv_aload_n hx hb dX1_belowOf_7 rfl (lv_at hl 0 rfl) ?_
      refine mg_many hx hb hts hin hown hK hP hl_many dX1_belowOf_8 ?_
      refine lv_icmp_ge (tgt := 54) hx hb dX1_belowOf_11 (by decide) (fun c11 => ?_) (fun c11 => ?_)
      · have hkn : k = nr := Nat.le_antisymm hk_k (ge_t hnr (by omega) (by omega) c11)
        refine lv_iload_n hx hb dX1_belowOf_54 rfl (lv_at hl 2 rfl) ?_
        exact q_iret hx hb hr hlocks (by rw [hkn]) dX1_belowOf_55
      · have hkn : k < nr := ge_f hnr (by omega) c11
        refine lv_iload_n hx hb dX1_belowOf_14 rfl (lv_at hl 2 rfl) ?_
        refine lv_aload_n hx hb dX1_belowOf_15 rfl (lv_at hl 0 rfl) ?_
        refine mg_sources hx hb hts hin hown hK hP hl_sources dX1_belowOf_16 ?_
        refine lv_iload_n hx hb dX1_belowOf_19 rfl (lv_at hl 3 rfl) ?_
        refine mr_sources (j := k) hx hb hK hP (by omega) dX1_belowOf_20 ?_
        refine lv_iload_n hx hb dX1_belowOf_21 rfl (lv_at hl 1 rfl) ?_
        refine k_X1_has (σ.2 9 k) r (by omega) ⟨hx, hb, hml, hown, hts⟩ gX1_belowOf_X1_has ⟨Nat.le_of_ble_eq_true rfl, Nat.le_of_ble_eq_true rfl⟩ hl.1 ⟨Nat.zero_le _, Nat.zero_le _⟩ (Nat.le_of_ble_eq_true rfl) dX1_belowOf_22 ?_
        refine lv_ifne_b (tgt := 39) hx hb dX1_belowOf_25 (by decide) (fun c25 => ?_) (fun c25 => ?_)
        · refine lv_iconst (v := 1) hx hb dX1_belowOf_39 (by decide) ?_
          refine lv_iload_n hx hb dX1_belowOf_40 rfl (lv_at hl 3 rfl) ?_
          refine lv_ishl hx hb dX1_belowOf_41 ?_
          refine lv_goto (tgt := 46) hx hb dX1_belowOf_42 (by decide) ?_
          refine lv_ior hx hb dX1_belowOf_46 ?_
          refine lv_istore_n (lv' := [(2, .int ((m_belk (σ.2 9) r k) ||| (1 <<< ((nI k) &&& 31)))), (0, .ref h0), (1, .int (nI r)), (3, .int (nI k))]) hx hb dX1_belowOf_47 rfl hl (by decide) rfl (fun ls hl => ?_)
          refine lv_iinc (v := (nI k) + 1) (lv' := [(3, .int ((nI k) + 1)), (2, .int ((m_belk (σ.2 9) r k) ||| (1 <<< ((nI k) &&& 31)))), (0, .ref h0), (1, .int (nI r))]) hx hb dX1_belowOf_48 hl (k := 3) rfl rfl (by decide) rfl (fun ls hl => ?_)
          refine lv_goto (tgt := 6) hx hb dX1_belowOf_51 (by decide) ?_
          exact ihk (k + 1) (by omega) (by omega)  (by omega) _ (lv_to (L := [(0, .ref h0), (1, .int (nI r)), (2, .int ((m_belk (σ.2 9) r k) ||| (1 <<< ((nI k) &&& 31)))), (3, .int ((nI k) + 1))]) (lv_sub hl [2, 3, 1, 0] rfl) (lv_cr (lv_cr (lv_ci (by rw [m_belk, if_pos ⟨by omega, Or.inl c25⟩]; rfl) (lv_ci (nI_1 k) rfl)))))
        · refine lv_aload_n hx hb dX1_belowOf_28 rfl (lv_at hl 0 rfl) ?_
          refine mg_sources hx hb hts hin hown hK hP hl_sources dX1_belowOf_29 ?_
          refine lv_iload_n hx hb dX1_belowOf_32 rfl (lv_at hl 3 rfl) ?_
          refine mr_sources (j := k) hx hb hK hP (by omega) dX1_belowOf_33 ?_
          refine lv_iload_n hx hb dX1_belowOf_34 rfl (lv_at hl 2 rfl) ?_
          refine lv_iand hx hb dX1_belowOf_35 ?_
          refine lv_if_eq (tgt := 45) hx hb dX1_belowOf_36 (by decide) (fun c36 => ?_) (fun c36 => ?_)
          · refine lv_iconst (v := 0) hx hb dX1_belowOf_45 (by decide) ?_
            refine lv_ior hx hb dX1_belowOf_46 ?_
            refine lv_istore_n (lv' := [(2, .int ((m_belk (σ.2 9) r k) ||| 0)), (0, .ref h0), (1, .int (nI r)), (3, .int (nI k))]) hx hb dX1_belowOf_47 rfl hl (by decide) rfl (fun ls hl => ?_)
            refine lv_iinc (v := (nI k) + 1) (lv' := [(3, .int ((nI k) + 1)), (2, .int ((m_belk (σ.2 9) r k) ||| 0)), (0, .ref h0), (1, .int (nI r))]) hx hb dX1_belowOf_48 hl (k := 3) rfl rfl (by decide) rfl (fun ls hl => ?_)
            refine lv_goto (tgt := 6) hx hb dX1_belowOf_51 (by decide) ?_
            exact ihk (k + 1) (by omega) (by omega)  (by omega) _ (lv_to (L := [(0, .ref h0), (1, .int (nI r)), (2, .int ((m_belk (σ.2 9) r k) ||| 0)), (3, .int ((nI k) + 1))]) (lv_sub hl [2, 3, 1, 0] rfl) (lv_cr (lv_cr (lv_ci (by rw [or0, m_belk, if_neg (fun h => h.2.elim (fun h => by rw [c25] at h; cases h) (fun h => h c36))]) (lv_ci (nI_1 k) rfl)))))
          · refine lv_iconst (v := 1) hx hb dX1_belowOf_39 (by decide) ?_
            refine lv_iload_n hx hb dX1_belowOf_40 rfl (lv_at hl 3 rfl) ?_
            refine lv_ishl hx hb dX1_belowOf_41 ?_
            refine lv_goto (tgt := 46) hx hb dX1_belowOf_42 (by decide) ?_
            refine lv_ior hx hb dX1_belowOf_46 ?_
            refine lv_istore_n (lv' := [(2, .int ((m_belk (σ.2 9) r k) ||| (1 <<< ((nI k) &&& 31)))), (0, .ref h0), (1, .int (nI r)), (3, .int (nI k))]) hx hb dX1_belowOf_47 rfl hl (by decide) rfl (fun ls hl => ?_)
            refine lv_iinc (v := (nI k) + 1) (lv' := [(3, .int ((nI k) + 1)), (2, .int ((m_belk (σ.2 9) r k) ||| (1 <<< ((nI k) &&& 31)))), (0, .ref h0), (1, .int (nI r))]) hx hb dX1_belowOf_48 hl (k := 3) rfl rfl (by decide) rfl (fun ls hl => ?_)
            refine lv_goto (tgt := 6) hx hb dX1_belowOf_51 (by decide) ?_
            exact ihk (k + 1) (by omega) (by omega)  (by omega) _ (lv_to (L := [(0, .ref h0), (1, .int (nI r)), (2, .int ((m_belk (σ.2 9) r k) ||| (1 <<< ((nI k) &&& 31)))), (3, .int ((nI k) + 1))]) (lv_sub hl [2, 3, 1, 0] rfl) (lv_cr (lv_cr (lv_ci (by rw [m_belk, if_pos ⟨by omega, Or.inr c36⟩]; rfl) (lv_ci (nI_1 k) rfl)))))
  exact loop6 (nr + 1) (r + 1) (by omega) (by omega)  (Nat.le_refl _) _ (lv_to (L := [(0, .ref h0), (1, .int (nI r)), (2, .int 0), (3, .int ((nI r) + 1))]) (lv_sub hl [2, 3, 1, 0] rfl) (lv_cr (lv_cr (lv_ci ((m_belk_lo _ (Nat.le_refl _)).symm) (lv_ci (nI_1 r) rfl)))))
theorem k_X1_belowOf {p : Program} {l : Launch} {e : Env} {R : Room} {s : State} {m : MethodId} {args : Array Value} {below : List Frame} {meth : Method} {c : Code} {H : Heap} {locs : List Loc} {cells slots : Nat} {Q : State → Prop} {cc : ByteArray} {pc : Nat} {ls : Array Slot} {rest : List Value} {Ts : List Cond} (D : va_G) (tI tZ tL : ClassId) (h0 : Nat) (ad : Nat → Nat) (σ : ST) (r : Nat) (nr : Nat) (hnr : σ.1 7 = nI nr) (hn30 : nr ≤ 30) (hrn : r < nr) {own : String} {idx nL : Nat} (S : CallFix p m c cc nL s args Ts own) (hG : GoodIn Ts (wsV own idx RX1 yX1_belowOf wsX1_belowOf)) (hR : ({ frames := 1, cells := 0, slots := 0, locals := 21 } : Room).frames + 1 ≤ R.frames ∧ 8 + (4 + 11) + ({ frames := 1, cells := 0, slots := 0, locals := 21 } : Room).locals ≤ R.locals) (hsz : ls.size = nL) (hcap : cells ≤ R.cells ∧ slots ≤ R.slots) (hrm : (rest.map fun v => v.category).sum ≤ 8) (hK : va_K D vwCl (kTY tI tZ tL) s) (hP : va_P D vwCl (m_W tI tZ h0 ad σ) H) (hdg : decode cc pc = .ok (.invokevirtual idx, 3)) (kk : W p l e R s m args below meth c H locs cells slots Q (F0 m (pc + 3) ls (.int (m_belk (σ.2 9) r nr) :: rest))) : W p l e R s m args below meth c H locs cells slots Q (F0 m pc ls (.int (nI r) :: .ref h0 :: rest)) :=
  q_call (va_runV (As := [.int (nI r)]) (rest := rest) S (c_X1_belowOf l D tI tZ tL h0 ad σ r nr hnr hn30 hrn) (cwV 1 S.2.2.2.2 hG rfl rfl rfl (by decide +kernel) hR) (m_pre hK hP) rfl rfl hsz rfl (lv_room hrm) hdg hcap) kk

set_option maxHeartbeats 4000000 in
set_option maxRecDepth 100000 in
theorem c_X1_isAllowed (l : Launch) (D : va_G) (tI tZ tL : ClassId) (h0 : Nat) (ad : Nat → Nat) (σ : ST) (q : Nat) (of : Int32) (hq8 : q < 8) : Met l yX1_isAllowed wsX1_isAllowed ({ frames := 1, cells := 0, slots := 0, locals := 21 } : Room) (va_Pc ([.ref h0, .int (nI q), .int of] : List Value) (m_B D tI tZ tL h0 ad σ)) (q_Q (some (.int (b01 (m_alw σ.2 q of))))) 0 0 q_no := by
  refine q_met (cc := cX1_isAllowed) (maxL := 5) (ret := (some .boolean)) (by decide) rfl (Nat.le_of_ble_eq_true rfl) ?_
  intro p e s m below meth c hx hb hml hr hts hown hlocks hB ls hl
  have hown : s.vm.findClass RX1 = some m.cls := hown
  obtain ⟨hP, hK⟩ := hB
  have hl : lv_has ls 5 [(0, .ref h0), (1, .int (nI q)), (2, .int of)] := hl
  have hin : ∀ w ∈ wsX10, w ∈ wsX1_isAllowed := in_X1_isAllowed
  have hl_consented : ml_consented ∈ wsX1_isAllowed := by decide +kernel
  have hl_needs : ml_needs ∈ wsX1_isAllowed := by decide +kernel
  refine lv_iconst (v := 1) hx hb dX1_isAllowed_0 (by decide) ?_
  refine lv_istore_n (lv' := [(3, .int 1), (0, .ref h0), (1, .int (nI q)), (2, .int of)]) hx hb dX1_isAllowed_1 rfl hl (by decide) rfl (fun ls hl => ?_)
  refine lv_iconst (v := 0) hx hb dX1_isAllowed_2 (by decide) ?_
  refine lv_istore (lv' := [(4, .int 0), (3, .int 1), (0, .ref h0), (1, .int (nI q)), (2, .int of)]) hx hb dX1_isAllowed_3 hl (by decide) rfl (fun ls hl => ?_)
  have loop5 : ∀ (n k : Nat), k ≤ 12 → 12 + 1 ≤ k + n → (hnd : k = 0 ∨ ¬ σ.2 4 q = 0) → ∀ ls, lv_has ls 5 [(0, .ref h0), (1, .int (nI q)), (2, .int of), (3, .int (b01 (m_alf (σ.2 5) q of k))), (4, .int (nI k))] → q_G p l e ({ frames := 1, cells := 0, slots := 0, locals := 21 } : Room) s m ([.ref h0, .int (nI q), .int of] : List Value).toArray below meth c (some (.int (b01 (m_alw σ.2 q of)))) (F0 m 5 ls []) := by
    intro n
    induction n with
    | zero => intro k h1 h2; omega
    | succ n ihk =>
      intro k hk_k hn_k  hnd ls hl
      refine lv_iload hx hb dX1_isAllowed_5 (lv_at hl 4 rfl) ?_
      refine lv_bipush (v := 12) hx hb dX1_isAllowed_7 (by decide) ?_
      refine lv_icmp_ge (tgt := 60) hx hb dX1_isAllowed_9 (by decide) (fun c9 => ?_) (fun c9 => ?_)
      · have hkn : k = 12 := Nat.le_antisymm hk_k (ge_t (n := 12) rfl (by omega) (by omega) c9)
        refine lv_iload_n hx hb dX1_isAllowed_60 rfl (lv_at hl 3 rfl) ?_
        exact q_zret hx hb hr hlocks (by rw [hkn, m_alw, if_neg (hnd.resolve_left (by omega))]) dX1_isAllowed_61
      · have hkn : k < 12 := ge_f (n := 12) rfl (by omega) c9
        refine lv_aload_n hx hb dX1_isAllowed_12 rfl (lv_at hl 0 rfl) ?_
        refine mg_needs hx hb hts hin hown hK hP hl_needs dX1_isAllowed_13 ?_
        refine lv_iload_n hx hb dX1_isAllowed_16 rfl (lv_at hl 1 rfl) ?_
        refine mr_needs (j := q) hx hb hK hP (by omega) dX1_isAllowed_17 ?_
        refine lv_if_eq (tgt := 60) hx hb dX1_isAllowed_18 (by decide) (fun c18 => ?_) (fun c18 => ?_)
        · refine lv_iload_n hx hb dX1_isAllowed_60 rfl (lv_at hl 3 rfl) ?_
          exact q_zret hx hb hr hlocks (by rw [m_alw, if_pos c18, (hnd.resolve_right (fun h => h c18))]; rfl) dX1_isAllowed_61
        · refine lv_iload_n hx hb dX1_isAllowed_21 rfl (lv_at hl 3 rfl) ?_
          refine lv_ifeq_b (tgt := 52) hx hb dX1_isAllowed_22 (by decide) (fun c22 => ?_) (fun c22 => ?_)
          · refine lv_iconst (v := 0) hx hb dX1_isAllowed_52 (by decide) ?_
            refine lv_istore_n (lv' := [(3, .int 0), (0, .ref h0), (1, .int (nI q)), (2, .int of), (4, .int (nI k))]) hx hb dX1_isAllowed_53 rfl hl (by decide) rfl (fun ls hl => ?_)
            refine lv_iinc (v := (nI k) + 1) (lv' := [(4, .int ((nI k) + 1)), (3, .int 0), (0, .ref h0), (1, .int (nI q)), (2, .int of)]) hx hb dX1_isAllowed_54 hl (k := 4) rfl rfl (by decide) rfl (fun ls hl => ?_)
            refine lv_goto (tgt := 5) hx hb dX1_isAllowed_57 (by decide) ?_
            exact ihk (k + 1) (by omega) (by omega)  (Or.inr c18) _ (lv_to (L := [(0, .ref h0), (1, .int (nI q)), (2, .int of), (3, .int 0), (4, .int ((nI k) + 1))]) (lv_sub hl [2, 3, 4, 1, 0] rfl) (lv_cr (lv_cr (lv_cr (lv_ci (by rw [m_alf, c22]; rfl) (lv_ci (nI_1 k) rfl))))))
          · refine lv_iload_n hx hb dX1_isAllowed_25 rfl (lv_at hl 2 rfl) ?_
            refine lv_iload hx hb dX1_isAllowed_26 (lv_at hl 4 rfl) ?_
            refine k_X1_has of k (by omega) ⟨hx, hb, hml, hown, hts⟩ gX1_isAllowed_X1_has ⟨Nat.le_of_ble_eq_true rfl, Nat.le_of_ble_eq_true rfl⟩ hl.1 ⟨Nat.zero_le _, Nat.zero_le _⟩ (Nat.le_of_ble_eq_true rfl) dX1_isAllowed_28 ?_
            refine lv_ifeq_b (tgt := 48) hx hb dX1_isAllowed_31 (by decide) (fun c31 => ?_) (fun c31 => ?_)
            · refine lv_iconst (v := 1) hx hb dX1_isAllowed_48 (by decide) ?_
              refine lv_goto (tgt := 53) hx hb dX1_isAllowed_49 (by decide) ?_
              refine lv_istore_n (lv' := [(3, .int 1), (0, .ref h0), (1, .int (nI q)), (2, .int of), (4, .int (nI k))]) hx hb dX1_isAllowed_53 rfl hl (by decide) rfl (fun ls hl => ?_)
              refine lv_iinc (v := (nI k) + 1) (lv' := [(4, .int ((nI k) + 1)), (3, .int 1), (0, .ref h0), (1, .int (nI q)), (2, .int of)]) hx hb dX1_isAllowed_54 hl (k := 4) rfl rfl (by decide) rfl (fun ls hl => ?_)
              refine lv_goto (tgt := 5) hx hb dX1_isAllowed_57 (by decide) ?_
              exact ihk (k + 1) (by omega) (by omega)  (Or.inr c18) _ (lv_to (L := [(0, .ref h0), (1, .int (nI q)), (2, .int of), (3, .int 1), (4, .int ((nI k) + 1))]) (lv_sub hl [2, 3, 4, 1, 0] rfl) (lv_cr (lv_cr (lv_cr (lv_ci (by rw [m_alf, c22, c31]; rfl) (lv_ci (nI_1 k) rfl))))))
            · refine lv_aload_n hx hb dX1_isAllowed_34 rfl (lv_at hl 0 rfl) ?_
              refine mg_consented hx hb hts hin hown hK hP hl_consented dX1_isAllowed_35 ?_
              refine lv_iload hx hb dX1_isAllowed_38 (lv_at hl 4 rfl) ?_
              refine mr_consented (j := k) hx hb hK hP (by omega) dX1_isAllowed_40 ?_
              refine lv_iload_n hx hb dX1_isAllowed_41 rfl (lv_at hl 1 rfl) ?_
              refine k_X1_has (σ.2 5 k) q (by omega) ⟨hx, hb, hml, hown, hts⟩ gX1_isAllowed_X1_has ⟨Nat.le_of_ble_eq_true rfl, Nat.le_of_ble_eq_true rfl⟩ hl.1 ⟨Nat.zero_le _, Nat.zero_le _⟩ (Nat.le_of_ble_eq_true rfl) dX1_isAllowed_42 ?_
              refine lv_ifeq_b (tgt := 52) hx hb dX1_isAllowed_45 (by decide) (fun c45 => ?_) (fun c45 => ?_)
              · refine lv_iconst (v := 0) hx hb dX1_isAllowed_52 (by decide) ?_
                refine lv_istore_n (lv' := [(3, .int 0), (0, .ref h0), (1, .int (nI q)), (2, .int of), (4, .int (nI k))]) hx hb dX1_isAllowed_53 rfl hl (by decide) rfl (fun ls hl => ?_)
                refine lv_iinc (v := (nI k) + 1) (lv' := [(4, .int ((nI k) + 1)), (3, .int 0), (0, .ref h0), (1, .int (nI q)), (2, .int of)]) hx hb dX1_isAllowed_54 hl (k := 4) rfl rfl (by decide) rfl (fun ls hl => ?_)
                refine lv_goto (tgt := 5) hx hb dX1_isAllowed_57 (by decide) ?_
                exact ihk (k + 1) (by omega) (by omega)  (Or.inr c18) _ (lv_to (L := [(0, .ref h0), (1, .int (nI q)), (2, .int of), (3, .int 0), (4, .int ((nI k) + 1))]) (lv_sub hl [2, 3, 4, 1, 0] rfl) (lv_cr (lv_cr (lv_cr (lv_ci (by rw [m_alf, c22, c31, c45]; rfl) (lv_ci (nI_1 k) rfl))))))
              · refine lv_iconst (v := 1) hx hb dX1_isAllowed_48 (by decide) ?_
                refine lv_goto (tgt := 53) hx hb dX1_isAllowed_49 (by decide) ?_
                refine lv_istore_n (lv' := [(3, .int 1), (0, .ref h0), (1, .int (nI q)), (2, .int of), (4, .int (nI k))]) hx hb dX1_isAllowed_53 rfl hl (by decide) rfl (fun ls hl => ?_)
                refine lv_iinc (v := (nI k) + 1) (lv' := [(4, .int ((nI k) + 1)), (3, .int 1), (0, .ref h0), (1, .int (nI q)), (2, .int of)]) hx hb dX1_isAllowed_54 hl (k := 4) rfl rfl (by decide) rfl (fun ls hl => ?_)
                refine lv_goto (tgt := 5) hx hb dX1_isAllowed_57 (by decide) ?_
                exact ihk (k + 1) (by omega) (by omega)  (Or.inr c18) _ (lv_to (L := [(0, .ref h0), (1, .int (nI q)), (2, .int of), (3, .int 1), (4, .int ((nI k) + 1))]) (lv_sub hl [2, 3, 4, 1, 0] rfl) (lv_cr (lv_cr (lv_cr (lv_ci (by rw [m_alf, c22, c31, c45]; rfl) (lv_ci (nI_1 k) rfl))))))
  exact loop5 (12 + 1) 0 (by omega) (by omega)  (Or.inl rfl) _ (lv_to (L := [(0, .ref h0), (1, .int (nI q)), (2, .int of), (3, .int 1), (4, .int 0)]) (lv_sub hl [2, 3, 4, 1, 0] rfl) (lv_cr (lv_cr (lv_cr (lv_ci (rfl) (lv_ci (rfl) rfl))))))
theorem k_X1_isAllowed {p : Program} {l : Launch} {e : Env} {R : Room} {s : State} {m : MethodId} {args : Array Value} {below : List Frame} {meth : Method} {c : Code} {H : Heap} {locs : List Loc} {cells slots : Nat} {Q : State → Prop} {cc : ByteArray} {pc : Nat} {ls : Array Slot} {rest : List Value} {Ts : List Cond} (D : va_G) (tI tZ tL : ClassId) (h0 : Nat) (ad : Nat → Nat) (σ : ST) (q : Nat) (of : Int32) (hq8 : q < 8) {own : String} {idx nL : Nat} (S : CallFix p m c cc nL s args Ts own) (hG : GoodIn Ts (wsV own idx RX1 yX1_isAllowed wsX1_isAllowed)) (hR : ({ frames := 1, cells := 0, slots := 0, locals := 21 } : Room).frames + 1 ≤ R.frames ∧ 8 + (5 + 11) + ({ frames := 1, cells := 0, slots := 0, locals := 21 } : Room).locals ≤ R.locals) (hsz : ls.size = nL) (hcap : cells ≤ R.cells ∧ slots ≤ R.slots) (hrm : (rest.map fun v => v.category).sum ≤ 8) (hK : va_K D vwCl (kTY tI tZ tL) s) (hP : va_P D vwCl (m_W tI tZ h0 ad σ) H) (hdg : decode cc pc = .ok (.invokevirtual idx, 3)) (kk : W p l e R s m args below meth c H locs cells slots Q (F0 m (pc + 3) ls (.int (b01 (m_alw σ.2 q of)) :: rest))) : W p l e R s m args below meth c H locs cells slots Q (F0 m pc ls (.int of :: .int (nI q) :: .ref h0 :: rest)) :=
  q_call (va_runV (As := [.int (nI q), .int of]) (rest := rest) S (c_X1_isAllowed l D tI tZ tL h0 ad σ q of hq8) (cwV 2 S.2.2.2.2 hG rfl rfl rfl (by decide +kernel) hR) (m_pre hK hP) rfl rfl hsz rfl (lv_room hrm) hdg hcap) kk

set_option maxHeartbeats 4000000 in
set_option maxRecDepth 100000 in
theorem c_X1_endBy (l : Launch) (D : va_G) (tI tZ tL : ClassId) (h0 : Nat) (ad : Nat → Nat) (σ : ST) (w of day : Int32) (np : Nat) (hnp : σ.1 2 = nI np) (hn8 : np ≤ 8)  : Met l yX1_endBy wsX1_endBy ({ frames := 2, cells := 0, slots := 0, locals := 45 } : Room) (va_Pc ([.ref h0, .int w, .int of, .int day] : List Value) (m_B D tI tZ tL h0 ad σ)) (q_Q (some (.int (m_enf σ.2 w of day np)))) 0 0 q_no := by
  refine q_met (cc := cX1_endBy) (maxL := 6) (ret := (some .int)) (by decide) rfl (Nat.le_of_ble_eq_true rfl) ?_
  intro p e s m below meth c hx hb hml hr hts hown hlocks hB ls hl
  have hown : s.vm.findClass RX1 = some m.cls := hown
  obtain ⟨hP, hK⟩ := hB
  have hl : lv_has ls 6 [(0, .ref h0), (1, .int w), (2, .int of), (3, .int day)] := hl
  have hin : ∀ w ∈ wsX10, w ∈ wsX1_endBy := in_X1_endBy
  have hl_purposes : ml_purposes ∈ wsX1_endBy := by decide +kernel
  have hl_retention : ml_retention ∈ wsX1_endBy := by decide +kernel
  refine lv_iload_n hx hb dX1_endBy_0 rfl (lv_at hl 3 rfl) ?_
  refine lv_istore (lv' := [(4, .int day), (0, .ref h0), (1, .int w), (2, .int of), (3, .int day)]) hx hb dX1_endBy_1 hl (by decide) rfl (fun ls hl => ?_)
  refine lv_iconst (v := 0) hx hb dX1_endBy_3 (by decide) ?_
  refine lv_istore (lv' := [(5, .int 0), (4, .int day), (0, .ref h0), (1, .int w), (2, .int of), (3, .int day)]) hx hb dX1_endBy_4 hl (by decide) rfl (fun ls hl => ?_)
  have loop6 : ∀ (n k : Nat), k ≤ np → np + 1 ≤ k + n → ∀ ls, lv_has ls 6 [(0, .ref h0), (1, .int w), (2, .int of), (3, .int day), (4, .int (m_enf σ.2 w of day k)), (5, .int (nI k))] → q_G p l e ({ frames := 2, cells := 0, slots := 0, locals := 45 } : Room) s m ([.ref h0, .int w, .int of, .int day] : List Value).toArray below meth c (some (.int (m_enf σ.2 w of day np))) (F0 m 6 ls []) := by
    intro n
    induction n with
    | zero => intro k h1 h2; omega
    | succ n ihk =>
      intro k hk_k hn_k   ls hl
      refine lv_iload hx hb dX1_endBy_6 (lv_at hl 5 rfl) ?_
      refine lv_aload_n hx hb dX1_endBy_8 rfl (lv_at hl 0 rfl) ?_
      refine mg_purposes hx hb hts hin hown hK hP hl_purposes dX1_endBy_9 ?_
      refine lv_icmp_ge (tgt := 70) hx hb dX1_endBy_12 (by decide) (fun c12 => ?_) (fun c12 => ?_)
      · have hkn : k = np := Nat.le_antisymm hk_k (ge_t hnp (by omega) (by omega) c12)
        refine lv_iload hx hb dX1_endBy_70 (lv_at hl 4 rfl) ?_
        exact q_iret hx hb hr hlocks (by rw [hkn]) dX1_endBy_72
      · have hkn : k < np := ge_f hnp (by omega) c12
        refine lv_iload_n hx hb dX1_endBy_15 rfl (lv_at hl 1 rfl) ?_
        refine lv_iload hx hb dX1_endBy_16 (lv_at hl 5 rfl) ?_
        refine k_X1_has w k (by omega) ⟨hx, hb, hml, hown, hts⟩ gX1_endBy_X1_has ⟨Nat.le_of_ble_eq_true rfl, Nat.le_of_ble_eq_true rfl⟩ hl.1 ⟨Nat.zero_le _, Nat.zero_le _⟩ (Nat.le_of_ble_eq_true rfl) dX1_endBy_18 ?_
        refine lv_ifeq_b (tgt := 60) hx hb dX1_endBy_21 (by decide) (fun c21 => ?_) (fun c21 => ?_)
        · refine lv_iload hx hb dX1_endBy_60 (lv_at hl 4 rfl) ?_
          refine lv_istore (lv' := [(4, .int (m_enf σ.2 w of day k)), (0, .ref h0), (1, .int w), (2, .int of), (3, .int day), (5, .int (nI k))]) hx hb dX1_endBy_62 hl (by decide) rfl (fun ls hl => ?_)
          refine lv_iinc (v := (nI k) + 1) (lv' := [(5, .int ((nI k) + 1)), (4, .int (m_enf σ.2 w of day k)), (0, .ref h0), (1, .int w), (2, .int of), (3, .int day)]) hx hb dX1_endBy_64 hl (k := 5) rfl rfl (by decide) rfl (fun ls hl => ?_)
          refine lv_goto (tgt := 6) hx hb dX1_endBy_67 (by decide) ?_
          exact ihk (k + 1) (by omega) (by omega)   _ (lv_to (L := [(0, .ref h0), (1, .int w), (2, .int of), (3, .int day), (4, .int (m_enf σ.2 w of day k)), (5, .int ((nI k) + 1))]) (lv_sub hl [2, 3, 4, 5, 1, 0] rfl) (lv_cr (lv_cr (lv_cr (lv_cr (lv_ci (by rw [m_enf, if_neg (fun h => by rw [c21] at h; cases h.1)]) (lv_ci (nI_1 k) rfl)))))))
        · refine lv_aload_n hx hb dX1_endBy_24 rfl (lv_at hl 0 rfl) ?_
          refine lv_iload hx hb dX1_endBy_25 (lv_at hl 5 rfl) ?_
          refine lv_iload_n hx hb dX1_endBy_27 rfl (lv_at hl 2 rfl) ?_
          refine k_X1_isAllowed D tI tZ tL h0 ad σ k of (by omega) ⟨hx, hb, hml, hown, hts⟩ gX1_endBy_X1_isAllowed ⟨Nat.le_of_ble_eq_true rfl, Nat.le_of_ble_eq_true rfl⟩ hl.1 ⟨Nat.zero_le _, Nat.zero_le _⟩ (Nat.le_of_ble_eq_true rfl) hK hP dX1_endBy_28 ?_
          refine lv_ifeq_b (tgt := 60) hx hb dX1_endBy_31 (by decide) (fun c31 => ?_) (fun c31 => ?_)
          · refine lv_iload hx hb dX1_endBy_60 (lv_at hl 4 rfl) ?_
            refine lv_istore (lv' := [(4, .int (m_enf σ.2 w of day k)), (0, .ref h0), (1, .int w), (2, .int of), (3, .int day), (5, .int (nI k))]) hx hb dX1_endBy_62 hl (by decide) rfl (fun ls hl => ?_)
            refine lv_iinc (v := (nI k) + 1) (lv' := [(5, .int ((nI k) + 1)), (4, .int (m_enf σ.2 w of day k)), (0, .ref h0), (1, .int w), (2, .int of), (3, .int day)]) hx hb dX1_endBy_64 hl (k := 5) rfl rfl (by decide) rfl (fun ls hl => ?_)
            refine lv_goto (tgt := 6) hx hb dX1_endBy_67 (by decide) ?_
            exact ihk (k + 1) (by omega) (by omega)   _ (lv_to (L := [(0, .ref h0), (1, .int w), (2, .int of), (3, .int day), (4, .int (m_enf σ.2 w of day k)), (5, .int ((nI k) + 1))]) (lv_sub hl [2, 3, 4, 5, 1, 0] rfl) (lv_cr (lv_cr (lv_cr (lv_cr (lv_ci (by rw [m_enf, if_neg (fun h => by rw [c31] at h; cases h.2.1)]) (lv_ci (nI_1 k) rfl)))))))
          · refine lv_iload_n hx hb dX1_endBy_34 rfl (lv_at hl 3 rfl) ?_
            refine lv_aload_n hx hb dX1_endBy_35 rfl (lv_at hl 0 rfl) ?_
            refine mg_retention hx hb hts hin hown hK hP hl_retention dX1_endBy_36 ?_
            refine lv_iload hx hb dX1_endBy_39 (lv_at hl 5 rfl) ?_
            refine mr_retention (j := k) hx hb hK hP (by omega) dX1_endBy_41 ?_
            refine lv_iadd hx hb dX1_endBy_42 ?_
            refine lv_iload hx hb dX1_endBy_43 (lv_at hl 4 rfl) ?_
            refine lv_icmp_le (tgt := 60) hx hb dX1_endBy_45 (by decide) (fun c45 => ?_) (fun c45 => ?_)
            · refine lv_iload hx hb dX1_endBy_60 (lv_at hl 4 rfl) ?_
              refine lv_istore (lv' := [(4, .int (m_enf σ.2 w of day k)), (0, .ref h0), (1, .int w), (2, .int of), (3, .int day), (5, .int (nI k))]) hx hb dX1_endBy_62 hl (by decide) rfl (fun ls hl => ?_)
              refine lv_iinc (v := (nI k) + 1) (lv' := [(5, .int ((nI k) + 1)), (4, .int (m_enf σ.2 w of day k)), (0, .ref h0), (1, .int w), (2, .int of), (3, .int day)]) hx hb dX1_endBy_64 hl (k := 5) rfl rfl (by decide) rfl (fun ls hl => ?_)
              refine lv_goto (tgt := 6) hx hb dX1_endBy_67 (by decide) ?_
              exact ihk (k + 1) (by omega) (by omega)   _ (lv_to (L := [(0, .ref h0), (1, .int w), (2, .int of), (3, .int day), (4, .int (m_enf σ.2 w of day k)), (5, .int ((nI k) + 1))]) (lv_sub hl [2, 3, 4, 5, 1, 0] rfl) (lv_cr (lv_cr (lv_cr (lv_cr (lv_ci (by rw [m_enf, if_neg (fun h => h.2.2 c45)]) (lv_ci (nI_1 k) rfl)))))))
            · refine lv_iload_n hx hb dX1_endBy_48 rfl (lv_at hl 3 rfl) ?_
              refine lv_aload_n hx hb dX1_endBy_49 rfl (lv_at hl 0 rfl) ?_
              refine mg_retention hx hb hts hin hown hK hP hl_retention dX1_endBy_50 ?_
              refine lv_iload hx hb dX1_endBy_53 (lv_at hl 5 rfl) ?_
              refine mr_retention (j := k) hx hb hK hP (by omega) dX1_endBy_55 ?_
              refine lv_iadd hx hb dX1_endBy_56 ?_
              refine lv_goto (tgt := 62) hx hb dX1_endBy_57 (by decide) ?_
              refine lv_istore (lv' := [(4, .int (day + (σ.2 3 k))), (0, .ref h0), (1, .int w), (2, .int of), (3, .int day), (5, .int (nI k))]) hx hb dX1_endBy_62 hl (by decide) rfl (fun ls hl => ?_)
              refine lv_iinc (v := (nI k) + 1) (lv' := [(5, .int ((nI k) + 1)), (4, .int (day + (σ.2 3 k))), (0, .ref h0), (1, .int w), (2, .int of), (3, .int day)]) hx hb dX1_endBy_64 hl (k := 5) rfl rfl (by decide) rfl (fun ls hl => ?_)
              refine lv_goto (tgt := 6) hx hb dX1_endBy_67 (by decide) ?_
              exact ihk (k + 1) (by omega) (by omega)   _ (lv_to (L := [(0, .ref h0), (1, .int w), (2, .int of), (3, .int day), (4, .int (day + (σ.2 3 k))), (5, .int ((nI k) + 1))]) (lv_sub hl [2, 3, 4, 5, 1, 0] rfl) (lv_cr (lv_cr (lv_cr (lv_cr (lv_ci (by rw [m_enf, if_pos ⟨c21, c31, c45⟩]) (lv_ci (nI_1 k) rfl)))))))
  exact loop6 (np + 1) 0 (by omega) (by omega)   _ (lv_to (L := [(0, .ref h0), (1, .int w), (2, .int of), (3, .int day), (4, .int day), (5, .int 0)]) (lv_sub hl [2, 3, 4, 5, 1, 0] rfl) (lv_cr (lv_cr (lv_cr (lv_cr (lv_ci (rfl) (lv_ci (rfl) rfl)))))))
theorem k_X1_endBy {p : Program} {l : Launch} {e : Env} {R : Room} {s : State} {m : MethodId} {args : Array Value} {below : List Frame} {meth : Method} {c : Code} {H : Heap} {locs : List Loc} {cells slots : Nat} {Q : State → Prop} {cc : ByteArray} {pc : Nat} {ls : Array Slot} {rest : List Value} {Ts : List Cond} (D : va_G) (tI tZ tL : ClassId) (h0 : Nat) (ad : Nat → Nat) (σ : ST) (w of day : Int32) (np : Nat) (hnp : σ.1 2 = nI np) (hn8 : np ≤ 8)  {own : String} {idx nL : Nat} (S : CallFix p m c cc nL s args Ts own) (hG : GoodIn Ts (wsV own idx RX1 yX1_endBy wsX1_endBy)) (hR : ({ frames := 2, cells := 0, slots := 0, locals := 45 } : Room).frames + 1 ≤ R.frames ∧ 8 + (6 + 11) + ({ frames := 2, cells := 0, slots := 0, locals := 45 } : Room).locals ≤ R.locals) (hsz : ls.size = nL) (hcap : cells ≤ R.cells ∧ slots ≤ R.slots) (hrm : (rest.map fun v => v.category).sum ≤ 8) (hK : va_K D vwCl (kTY tI tZ tL) s) (hP : va_P D vwCl (m_W tI tZ h0 ad σ) H) (hdg : decode cc pc = .ok (.invokevirtual idx, 3)) (kk : W p l e R s m args below meth c H locs cells slots Q (F0 m (pc + 3) ls (.int (m_enf σ.2 w of day np) :: rest))) : W p l e R s m args below meth c H locs cells slots Q (F0 m pc ls (.int day :: .int of :: .int w :: .ref h0 :: rest)) :=
  q_call (va_runV (As := [.int w, .int of, .int day]) (rest := rest) S (c_X1_endBy l D tI tZ tL h0 ad σ w of day np hnp hn8) (cwV 3 S.2.2.2.2 hG rfl rfl rfl (by decide +kernel) hR) (m_pre hK hP) rfl rfl hsz rfl (lv_room hrm) hdg hcap) kk

set_option maxHeartbeats 4000000 in
set_option maxRecDepth 100000 in
theorem c_X1_end (l : Launch) (D : va_G) (tI tZ tL : ClassId) (h0 : Nat) (ad : Nat → Nat) (σ : ST) (r : Nat) (hr30 : r < 30) (np : Nat) (hnp : σ.1 2 = nI np) (hn8 : np ≤ 8)  : Met l yX1_end wsX1_end ({ frames := 3, cells := 0, slots := 0, locals := 70 } : Room) (va_Pc ([.ref h0, .int (nI r)] : List Value) (m_B D tI tZ tL h0 ad σ)) (q_Q (some (.int (m_end σ.2 np r)))) 0 0 q_no := by
  refine q_met (cc := cX1_end) (maxL := 2) (ret := (some .int)) (by decide) rfl (Nat.le_of_ble_eq_true rfl) ?_
  intro p e s m below meth c hx hb hml hr hts hown hlocks hB ls hl
  have hown : s.vm.findClass RX1 = some m.cls := hown
  obtain ⟨hP, hK⟩ := hB
  have hl : lv_has ls 2 [(0, .ref h0), (1, .int (nI r))] := hl
  have hin : ∀ w ∈ wsX10, w ∈ wsX1_end := in_X1_end
  have hl_added : ml_added ∈ wsX1_end := by decide +kernel
  have hl_goals : ml_goals ∈ wsX1_end := by decide +kernel
  refine lv_aload_n hx hb dX1_end_0 rfl (lv_at hl 0 rfl) ?_
  refine lv_aload_n hx hb dX1_end_1 rfl (lv_at hl 0 rfl) ?_
  refine mg_goals hx hb hts hin hown hK hP hl_goals dX1_end_2 ?_
  refine lv_iload_n hx hb dX1_end_5 rfl (lv_at hl 1 rfl) ?_
  refine mr_goals (j := r) hx hb hK hP (by omega) dX1_end_6 ?_
  refine lv_aload_n hx hb dX1_end_7 rfl (lv_at hl 0 rfl) ?_
  refine lv_iload_n hx hb dX1_end_8 rfl (lv_at hl 1 rfl) ?_
  refine k_X1_subjects D tI tZ tL h0 ad σ r hr30 ⟨hx, hb, hml, hown, hts⟩ gX1_end_X1_subjects ⟨Nat.le_of_ble_eq_true rfl, Nat.le_of_ble_eq_true rfl⟩ hl.1 ⟨Nat.zero_le _, Nat.zero_le _⟩ (Nat.le_of_ble_eq_true rfl) hK hP dX1_end_9 ?_
  refine lv_aload_n hx hb dX1_end_12 rfl (lv_at hl 0 rfl) ?_
  refine mg_added hx hb hts hin hown hK hP hl_added dX1_end_13 ?_
  refine lv_iload_n hx hb dX1_end_16 rfl (lv_at hl 1 rfl) ?_
  refine mr_added (j := r) hx hb hK hP (by omega) dX1_end_17 ?_
  refine k_X1_endBy D tI tZ tL h0 ad σ (σ.2 10 r) (m_subj σ.2 r) (σ.2 11 r) np hnp hn8 ⟨hx, hb, hml, hown, hts⟩ gX1_end_X1_endBy ⟨Nat.le_of_ble_eq_true rfl, Nat.le_of_ble_eq_true rfl⟩ hl.1 ⟨Nat.zero_le _, Nat.zero_le _⟩ (Nat.le_of_ble_eq_true rfl) hK hP dX1_end_18 ?_
  exact q_iret hx hb hr hlocks (rfl) dX1_end_21
theorem k_X1_end {p : Program} {l : Launch} {e : Env} {R : Room} {s : State} {m : MethodId} {args : Array Value} {below : List Frame} {meth : Method} {c : Code} {H : Heap} {locs : List Loc} {cells slots : Nat} {Q : State → Prop} {cc : ByteArray} {pc : Nat} {ls : Array Slot} {rest : List Value} {Ts : List Cond} (D : va_G) (tI tZ tL : ClassId) (h0 : Nat) (ad : Nat → Nat) (σ : ST) (r : Nat) (hr30 : r < 30) (np : Nat) (hnp : σ.1 2 = nI np) (hn8 : np ≤ 8)  {own : String} {idx nL : Nat} (S : CallFix p m c cc nL s args Ts own) (hG : GoodIn Ts (wsV own idx RX1 yX1_end wsX1_end)) (hR : ({ frames := 3, cells := 0, slots := 0, locals := 70 } : Room).frames + 1 ≤ R.frames ∧ 8 + (2 + 11) + ({ frames := 3, cells := 0, slots := 0, locals := 70 } : Room).locals ≤ R.locals) (hsz : ls.size = nL) (hcap : cells ≤ R.cells ∧ slots ≤ R.slots) (hrm : (rest.map fun v => v.category).sum ≤ 8) (hK : va_K D vwCl (kTY tI tZ tL) s) (hP : va_P D vwCl (m_W tI tZ h0 ad σ) H) (hdg : decode cc pc = .ok (.invokevirtual idx, 3)) (kk : W p l e R s m args below meth c H locs cells slots Q (F0 m (pc + 3) ls (.int (m_end σ.2 np r) :: rest))) : W p l e R s m args below meth c H locs cells slots Q (F0 m pc ls (.int (nI r) :: .ref h0 :: rest)) :=
  q_call (va_runV (As := [.int (nI r)]) (rest := rest) S (c_X1_end l D tI tZ tL h0 ad σ r hr30 np hnp hn8) (cwV 1 S.2.2.2.2 hG rfl rfl rfl (by decide +kernel) hR) (m_pre hK hP) rfl rfl hsz rfl (lv_room hrm) hdg hcap) kk

set_option maxHeartbeats 4000000 in
set_option maxRecDepth 100000 in
theorem c_X1_reason (l : Launch) (D : va_G) (tI tZ tL : ClassId) (h0 : Nat) (ad : Nat → Nat) (σ : ST) (r q : Nat) (hr30 : r < 30) (hq8 : q < 8) : Met l yX1_reason wsX1_reason ({ frames := 3, cells := 0, slots := 0, locals := 68 } : Room) (va_Pc ([.ref h0, .int (nI r), .int (nI q)] : List Value) (m_B D tI tZ tL h0 ad σ)) (q_Q (some (.int (m_rsn σ.2 (σ.1 1) r q)))) 0 0 q_no := by
  refine q_met (cc := cX1_reason) (maxL := 3) (ret := (some .int)) (by decide) rfl (Nat.le_of_ble_eq_true rfl) ?_
  intro p e s m below meth c hx hb hml hr hts hown hlocks hB ls hl
  have hown : s.vm.findClass RX1 = some m.cls := hown
  obtain ⟨hP, hK⟩ := hB
  have hl : lv_has ls 3 [(0, .ref h0), (1, .int (nI r)), (2, .int (nI q))] := hl
  have hin : ∀ w ∈ wsX10, w ∈ wsX1_reason := in_X1_reason
  have hl_added : ml_added ∈ wsX1_reason := by decide +kernel
  have hl_goals : ml_goals ∈ wsX1_reason := by decide +kernel
  have hl_retention : ml_retention ∈ wsX1_reason := by decide +kernel
  have hl_state : ml_state ∈ wsX1_reason := by decide +kernel
  have hl_today : ml_today ∈ wsX1_reason := by decide +kernel
  refine lv_aload_n hx hb dX1_reason_0 rfl (lv_at hl 0 rfl) ?_
  refine mg_state hx hb hts hin hown hK hP hl_state dX1_reason_1 ?_
  refine lv_iload_n hx hb dX1_reason_4 rfl (lv_at hl 1 rfl) ?_
  refine mr_state (j := r) hx hb hK hP (by omega) dX1_reason_5 ?_
  refine lv_if_eq (tgt := 25) hx hb dX1_reason_6 (by decide) (fun c6 => ?_) (fun c6 => ?_)
  · refine lv_aload_n hx hb dX1_reason_25 rfl (lv_at hl 0 rfl) ?_
    refine mg_goals hx hb hts hin hown hK hP hl_goals dX1_reason_26 ?_
    refine lv_iload_n hx hb dX1_reason_29 rfl (lv_at hl 1 rfl) ?_
    refine mr_goals (j := r) hx hb hK hP (by omega) dX1_reason_30 ?_
    refine lv_iload_n hx hb dX1_reason_31 rfl (lv_at hl 2 rfl) ?_
    refine k_X1_has (σ.2 10 r) q (by omega) ⟨hx, hb, hml, hown, hts⟩ gX1_reason_X1_has ⟨Nat.le_of_ble_eq_true rfl, Nat.le_of_ble_eq_true rfl⟩ hl.1 ⟨Nat.zero_le _, Nat.zero_le _⟩ (Nat.le_of_ble_eq_true rfl) dX1_reason_32 ?_
    refine lv_ifne_b (tgt := 40) hx hb dX1_reason_35 (by decide) (fun c35 => ?_) (fun c35 => ?_)
    · refine lv_aload_n hx hb dX1_reason_40 rfl (lv_at hl 0 rfl) ?_
      refine lv_iload_n hx hb dX1_reason_41 rfl (lv_at hl 2 rfl) ?_
      refine lv_aload_n hx hb dX1_reason_42 rfl (lv_at hl 0 rfl) ?_
      refine lv_iload_n hx hb dX1_reason_43 rfl (lv_at hl 1 rfl) ?_
      refine k_X1_subjects D tI tZ tL h0 ad σ r hr30 ⟨hx, hb, hml, hown, hts⟩ gX1_reason_X1_subjects ⟨Nat.le_of_ble_eq_true rfl, Nat.le_of_ble_eq_true rfl⟩ hl.1 ⟨Nat.zero_le _, Nat.zero_le _⟩ (Nat.le_of_ble_eq_true rfl) hK hP dX1_reason_44 ?_
      refine k_X1_isAllowed D tI tZ tL h0 ad σ q (m_subj σ.2 r) hq8 ⟨hx, hb, hml, hown, hts⟩ gX1_reason_X1_isAllowed ⟨Nat.le_of_ble_eq_true rfl, Nat.le_of_ble_eq_true rfl⟩ hl.1 ⟨Nat.zero_le _, Nat.zero_le _⟩ (Nat.le_of_ble_eq_true rfl) hK hP dX1_reason_47 ?_
      refine lv_ifne_b (tgt := 57) hx hb dX1_reason_50 (by decide) (fun c50 => ?_) (fun c50 => ?_)
      · refine lv_aload_n hx hb dX1_reason_57 rfl (lv_at hl 0 rfl) ?_
        refine mg_today hx hb hts hin hown hK hP hl_today dX1_reason_58 ?_
        refine lv_aload_n hx hb dX1_reason_61 rfl (lv_at hl 0 rfl) ?_
        refine mg_added hx hb hts hin hown hK hP hl_added dX1_reason_62 ?_
        refine lv_iload_n hx hb dX1_reason_65 rfl (lv_at hl 1 rfl) ?_
        refine mr_added (j := r) hx hb hK hP (by omega) dX1_reason_66 ?_
        refine lv_aload_n hx hb dX1_reason_67 rfl (lv_at hl 0 rfl) ?_
        refine mg_retention hx hb hts hin hown hK hP hl_retention dX1_reason_68 ?_
        refine lv_iload_n hx hb dX1_reason_71 rfl (lv_at hl 2 rfl) ?_
        refine mr_retention (j := q) hx hb hK hP (by omega) dX1_reason_72 ?_
        refine lv_iadd hx hb dX1_reason_73 ?_
        refine lv_icmp_lt (tgt := 81) hx hb dX1_reason_74 (by decide) (fun c74 => ?_) (fun c74 => ?_)
        · refine lv_iconst (v := 0) hx hb dX1_reason_81 (by decide) ?_
          exact q_iret hx hb hr hlocks (by rw [m_rsn, if_neg (fun h => h c6), if_neg (by rw [c35]; decide), if_neg (by rw [c50]; decide), if_pos c74]) dX1_reason_82
        · refine lv_iconst (v := 5) hx hb dX1_reason_77 (by decide) ?_
          refine lv_goto (tgt := 82) hx hb dX1_reason_78 (by decide) ?_
          exact q_iret hx hb hr hlocks (by rw [m_rsn, if_neg (fun h => h c6), if_neg (by rw [c35]; decide), if_neg (by rw [c50]; decide), if_neg c74]) dX1_reason_82
      · refine lv_iconst (v := 4) hx hb dX1_reason_53 (by decide) ?_
        refine lv_goto (tgt := 82) hx hb dX1_reason_54 (by decide) ?_
        exact q_iret hx hb hr hlocks (by rw [m_rsn, if_neg (fun h => h c6), if_neg (by rw [c35]; decide), if_pos c50]) dX1_reason_82
    · refine lv_iconst (v := 3) hx hb dX1_reason_38 (by decide) ?_
      exact q_iret hx hb hr hlocks (by rw [m_rsn, if_neg (fun h => h c6), if_pos c35]) dX1_reason_39
  · refine lv_aload_n hx hb dX1_reason_9 rfl (lv_at hl 0 rfl) ?_
    refine mg_state hx hb hts hin hown hK hP hl_state dX1_reason_10 ?_
    refine lv_iload_n hx hb dX1_reason_13 rfl (lv_at hl 1 rfl) ?_
    refine mr_state (j := r) hx hb hK hP (by omega) dX1_reason_14 ?_
    refine lv_iconst (v := 2) hx hb dX1_reason_15 (by decide) ?_
    refine lv_icmp_ne (tgt := 23) hx hb dX1_reason_16 (by decide) (fun c16 => ?_) (fun c16 => ?_)
    · refine lv_iconst (v := 2) hx hb dX1_reason_23 (by decide) ?_
      exact q_iret hx hb hr hlocks (by rw [m_rsn, if_pos c6, if_neg c16]) dX1_reason_24
    · refine lv_iconst (v := 1) hx hb dX1_reason_19 (by decide) ?_
      refine lv_goto (tgt := 24) hx hb dX1_reason_20 (by decide) ?_
      exact q_iret hx hb hr hlocks (by rw [m_rsn, if_pos c6, if_pos c16]) dX1_reason_24
theorem k_X1_reason {p : Program} {l : Launch} {e : Env} {R : Room} {s : State} {m : MethodId} {args : Array Value} {below : List Frame} {meth : Method} {c : Code} {H : Heap} {locs : List Loc} {cells slots : Nat} {Q : State → Prop} {cc : ByteArray} {pc : Nat} {ls : Array Slot} {rest : List Value} {Ts : List Cond} (D : va_G) (tI tZ tL : ClassId) (h0 : Nat) (ad : Nat → Nat) (σ : ST) (r q : Nat) (hr30 : r < 30) (hq8 : q < 8) {own : String} {idx nL : Nat} (S : CallFix p m c cc nL s args Ts own) (hG : GoodIn Ts (wsV own idx RX1 yX1_reason wsX1_reason)) (hR : ({ frames := 3, cells := 0, slots := 0, locals := 68 } : Room).frames + 1 ≤ R.frames ∧ 8 + (3 + 11) + ({ frames := 3, cells := 0, slots := 0, locals := 68 } : Room).locals ≤ R.locals) (hsz : ls.size = nL) (hcap : cells ≤ R.cells ∧ slots ≤ R.slots) (hrm : (rest.map fun v => v.category).sum ≤ 8) (hK : va_K D vwCl (kTY tI tZ tL) s) (hP : va_P D vwCl (m_W tI tZ h0 ad σ) H) (hdg : decode cc pc = .ok (.invokevirtual idx, 3)) (kk : W p l e R s m args below meth c H locs cells slots Q (F0 m (pc + 3) ls (.int (m_rsn σ.2 (σ.1 1) r q) :: rest))) : W p l e R s m args below meth c H locs cells slots Q (F0 m pc ls (.int (nI q) :: .int (nI r) :: .ref h0 :: rest)) :=
  q_call (va_runV (As := [.int (nI r), .int (nI q)]) (rest := rest) S (c_X1_reason l D tI tZ tL h0 ad σ r q hr30 hq8) (cwV 2 S.2.2.2.2 hG rfl rfl rfl (by decide +kernel) hR) (m_pre hK hP) rfl rfl hsz rfl (lv_room hrm) hdg hcap) kk

set_option maxHeartbeats 4000000 in
set_option maxRecDepth 100000 in
theorem c_X1_dueSet (l : Launch) (D : va_G) (tI tZ tL : ClassId) (h0 : Nat) (ad : Nat → Nat) (σ : ST) (np : Nat) (hnp : σ.1 2 = nI np) (hn8 : np ≤ 8) (nr : Nat) (hnr : σ.1 7 = nI nr) (hn30 : nr ≤ 30)  : Met l yX1_dueSet wsX1_dueSet ({ frames := 4, cells := 0, slots := 0, locals := 91 } : Room) (va_Pc ([.ref h0] : List Value) (m_B D tI tZ tL h0 ad σ)) (q_Q (some (.int (m_due σ.2 (σ.1 1) np nr)))) 0 0 q_no := by
  refine q_met (cc := cX1_dueSet) (maxL := 3) (ret := (some .int)) (by decide) rfl (Nat.le_of_ble_eq_true rfl) ?_
  intro p e s m below meth c hx hb hml hr hts hown hlocks hB ls hl
  have hown : s.vm.findClass RX1 = some m.cls := hown
  obtain ⟨hP, hK⟩ := hB
  have hl : lv_has ls 3 [(0, .ref h0)] := hl
  have hin : ∀ w ∈ wsX10, w ∈ wsX1_dueSet := in_X1_dueSet
  have hl_many : ml_many ∈ wsX1_dueSet := by decide +kernel
  have hl_state : ml_state ∈ wsX1_dueSet := by decide +kernel
  have hl_today : ml_today ∈ wsX1_dueSet := by decide +kernel
  refine lv_iconst (v := 0) hx hb dX1_dueSet_0 (by decide) ?_
  refine lv_istore_n (lv' := [(1, .int 0), (0, .ref h0)]) hx hb dX1_dueSet_1 rfl hl (by decide) rfl (fun ls hl => ?_)
  refine lv_iconst (v := 0) hx hb dX1_dueSet_2 (by decide) ?_
  refine lv_istore_n (lv' := [(2, .int 0), (1, .int 0), (0, .ref h0)]) hx hb dX1_dueSet_3 rfl hl (by decide) rfl (fun ls hl => ?_)
  have loop4 : ∀ (n k : Nat), k ≤ nr → nr + 1 ≤ k + n → ∀ ls, lv_has ls 3 [(0, .ref h0), (1, .int (m_due σ.2 (σ.1 1) np k)), (2, .int (nI k))] → q_G p l e ({ frames := 4, cells := 0, slots := 0, locals := 91 } : Room) s m ([.ref h0] : List Value).toArray below meth c (some (.int (m_due σ.2 (σ.1 1) np nr))) (F0 m 4 ls []) := by
    intro n
    induction n with
    | zero => intro k h1 h2; omega
    | succ n ihk =>
      intro k hk_k hn_k   ls hl
      refine lv_iload_n hx hb dX1_dueSet_4 rfl (lv_at hl 2 rfl) ?_
      refine lv_aload_n hx hb dX1_dueSet_5 rfl (lv_at hl 0 rfl) ?_
      refine mg_many hx hb hts hin hown hK hP hl_many dX1_dueSet_6 ?_
      refine lv_icmp_ge (tgt := 49) hx hb dX1_dueSet_9 (by decide) (fun c9 => ?_) (fun c9 => ?_)
      · have hkn : k = nr := Nat.le_antisymm hk_k (ge_t hnr (by omega) (by omega) c9)
        refine lv_iload_n hx hb dX1_dueSet_49 rfl (lv_at hl 1 rfl) ?_
        exact q_iret hx hb hr hlocks (by rw [hkn]) dX1_dueSet_50
      · have hkn : k < nr := ge_f hnr (by omega) c9
        refine lv_iload_n hx hb dX1_dueSet_12 rfl (lv_at hl 1 rfl) ?_
        refine lv_aload_n hx hb dX1_dueSet_13 rfl (lv_at hl 0 rfl) ?_
        refine mg_state hx hb hts hin hown hK hP hl_state dX1_dueSet_14 ?_
        refine lv_iload_n hx hb dX1_dueSet_17 rfl (lv_at hl 2 rfl) ?_
        refine mr_state (j := k) hx hb hK hP (by omega) dX1_dueSet_18 ?_
        refine lv_if_ne (tgt := 40) hx hb dX1_dueSet_19 (by decide) (fun c19 => ?_) (fun c19 => ?_)
        · refine lv_iconst (v := 0) hx hb dX1_dueSet_40 (by decide) ?_
          refine lv_ior hx hb dX1_dueSet_41 ?_
          refine lv_istore_n (lv' := [(1, .int ((m_due σ.2 (σ.1 1) np k) ||| 0)), (0, .ref h0), (2, .int (nI k))]) hx hb dX1_dueSet_42 rfl hl (by decide) rfl (fun ls hl => ?_)
          refine lv_iinc (v := (nI k) + 1) (lv' := [(2, .int ((nI k) + 1)), (1, .int ((m_due σ.2 (σ.1 1) np k) ||| 0)), (0, .ref h0)]) hx hb dX1_dueSet_43 hl (k := 2) rfl rfl (by decide) rfl (fun ls hl => ?_)
          refine lv_goto (tgt := 4) hx hb dX1_dueSet_46 (by decide) ?_
          exact ihk (k + 1) (by omega) (by omega)   _ (lv_to (L := [(0, .ref h0), (1, .int ((m_due σ.2 (σ.1 1) np k) ||| 0)), (2, .int ((nI k) + 1))]) (lv_sub hl [2, 1, 0] rfl) (lv_cr (lv_ci (by rw [or0, m_due, if_neg (fun h => c19 h.1)]) (lv_ci (nI_1 k) rfl))))
        · refine lv_aload_n hx hb dX1_dueSet_22 rfl (lv_at hl 0 rfl) ?_
          refine lv_iload_n hx hb dX1_dueSet_23 rfl (lv_at hl 2 rfl) ?_
          refine k_X1_end D tI tZ tL h0 ad σ k (by omega) np hnp hn8 ⟨hx, hb, hml, hown, hts⟩ gX1_dueSet_X1_end ⟨Nat.le_of_ble_eq_true rfl, Nat.le_of_ble_eq_true rfl⟩ hl.1 ⟨Nat.zero_le _, Nat.zero_le _⟩ (Nat.le_of_ble_eq_true rfl) hK hP dX1_dueSet_24 ?_
          refine lv_aload_n hx hb dX1_dueSet_27 rfl (lv_at hl 0 rfl) ?_
          refine mg_today hx hb hts hin hown hK hP hl_today dX1_dueSet_28 ?_
          refine lv_icmp_gt (tgt := 40) hx hb dX1_dueSet_31 (by decide) (fun c31 => ?_) (fun c31 => ?_)
          · refine lv_iconst (v := 0) hx hb dX1_dueSet_40 (by decide) ?_
            refine lv_ior hx hb dX1_dueSet_41 ?_
            refine lv_istore_n (lv' := [(1, .int ((m_due σ.2 (σ.1 1) np k) ||| 0)), (0, .ref h0), (2, .int (nI k))]) hx hb dX1_dueSet_42 rfl hl (by decide) rfl (fun ls hl => ?_)
            refine lv_iinc (v := (nI k) + 1) (lv' := [(2, .int ((nI k) + 1)), (1, .int ((m_due σ.2 (σ.1 1) np k) ||| 0)), (0, .ref h0)]) hx hb dX1_dueSet_43 hl (k := 2) rfl rfl (by decide) rfl (fun ls hl => ?_)
            refine lv_goto (tgt := 4) hx hb dX1_dueSet_46 (by decide) ?_
            exact ihk (k + 1) (by omega) (by omega)   _ (lv_to (L := [(0, .ref h0), (1, .int ((m_due σ.2 (σ.1 1) np k) ||| 0)), (2, .int ((nI k) + 1))]) (lv_sub hl [2, 1, 0] rfl) (lv_cr (lv_ci (by rw [or0, m_due, if_neg (fun h => h.2 c31)]) (lv_ci (nI_1 k) rfl))))
          · refine lv_iconst (v := 1) hx hb dX1_dueSet_34 (by decide) ?_
            refine lv_iload_n hx hb dX1_dueSet_35 rfl (lv_at hl 2 rfl) ?_
            refine lv_ishl hx hb dX1_dueSet_36 ?_
            refine lv_goto (tgt := 41) hx hb dX1_dueSet_37 (by decide) ?_
            refine lv_ior hx hb dX1_dueSet_41 ?_
            refine lv_istore_n (lv' := [(1, .int ((m_due σ.2 (σ.1 1) np k) ||| (1 <<< ((nI k) &&& 31)))), (0, .ref h0), (2, .int (nI k))]) hx hb dX1_dueSet_42 rfl hl (by decide) rfl (fun ls hl => ?_)
            refine lv_iinc (v := (nI k) + 1) (lv' := [(2, .int ((nI k) + 1)), (1, .int ((m_due σ.2 (σ.1 1) np k) ||| (1 <<< ((nI k) &&& 31)))), (0, .ref h0)]) hx hb dX1_dueSet_43 hl (k := 2) rfl rfl (by decide) rfl (fun ls hl => ?_)
            refine lv_goto (tgt := 4) hx hb dX1_dueSet_46 (by decide) ?_
            exact ihk (k + 1) (by omega) (by omega)   _ (lv_to (L := [(0, .ref h0), (1, .int ((m_due σ.2 (σ.1 1) np k) ||| (1 <<< ((nI k) &&& 31)))), (2, .int ((nI k) + 1))]) (lv_sub hl [2, 1, 0] rfl) (lv_cr (lv_ci (by rw [m_due, if_pos ⟨c19, c31⟩]; rfl) (lv_ci (nI_1 k) rfl))))
  exact loop4 (nr + 1) 0 (by omega) (by omega)   _ (lv_to (L := [(0, .ref h0), (1, .int 0), (2, .int 0)]) (lv_sub hl [2, 1, 0] rfl) (lv_cr (lv_ci (rfl) (lv_ci (rfl) rfl))))
theorem k_X1_dueSet {p : Program} {l : Launch} {e : Env} {R : Room} {s : State} {m : MethodId} {args : Array Value} {below : List Frame} {meth : Method} {c : Code} {H : Heap} {locs : List Loc} {cells slots : Nat} {Q : State → Prop} {cc : ByteArray} {pc : Nat} {ls : Array Slot} {rest : List Value} {Ts : List Cond} (D : va_G) (tI tZ tL : ClassId) (h0 : Nat) (ad : Nat → Nat) (σ : ST) (np : Nat) (hnp : σ.1 2 = nI np) (hn8 : np ≤ 8) (nr : Nat) (hnr : σ.1 7 = nI nr) (hn30 : nr ≤ 30)  {own : String} {idx nL : Nat} (S : CallFix p m c cc nL s args Ts own) (hG : GoodIn Ts (wsV own idx RX1 yX1_dueSet wsX1_dueSet)) (hR : ({ frames := 4, cells := 0, slots := 0, locals := 91 } : Room).frames + 1 ≤ R.frames ∧ 8 + (3 + 11) + ({ frames := 4, cells := 0, slots := 0, locals := 91 } : Room).locals ≤ R.locals) (hsz : ls.size = nL) (hcap : cells ≤ R.cells ∧ slots ≤ R.slots) (hrm : (rest.map fun v => v.category).sum ≤ 8) (hK : va_K D vwCl (kTY tI tZ tL) s) (hP : va_P D vwCl (m_W tI tZ h0 ad σ) H) (hdg : decode cc pc = .ok (.invokevirtual idx, 3)) (kk : W p l e R s m args below meth c H locs cells slots Q (F0 m (pc + 3) ls (.int (m_due σ.2 (σ.1 1) np nr) :: rest))) : W p l e R s m args below meth c H locs cells slots Q (F0 m pc ls (.ref h0 :: rest)) :=
  q_call (va_runV (As := []) (rest := rest) S (c_X1_dueSet l D tI tZ tL h0 ad σ np hnp hn8 nr hnr hn30) (cwV 0 S.2.2.2.2 hG rfl rfl rfl (by decide +kernel) hR) (m_pre hK hP) rfl rfl hsz rfl (lv_room hrm) hdg hcap) kk

set_option maxHeartbeats 4000000 in
set_option maxRecDepth 100000 in
theorem c_X1_heldSet (l : Launch) (D : va_G) (tI tZ tL : ClassId) (h0 : Nat) (ad : Nat → Nat) (σ : ST)  : Met l yX1_heldSet wsX1_heldSet ({ frames := 0, cells := 0, slots := 0, locals := 0 } : Room) (va_Pc ([.ref h0] : List Value) (m_B D tI tZ tL h0 ad σ)) (q_Q (some (.int (x_held (σ.2 14) 6)))) 0 0 q_no := by
  refine q_met (cc := cX1_heldSet) (maxL := 3) (ret := (some .int)) (by decide) rfl (Nat.le_of_ble_eq_true rfl) ?_
  intro p e s m below meth c hx hb hml hr hts hown hlocks hB ls hl
  have hown : s.vm.findClass RX1 = some m.cls := hown
  obtain ⟨hP, hK⟩ := hB
  have hl : lv_has ls 3 [(0, .ref h0)] := hl
  have hin : ∀ w ∈ wsX10, w ∈ wsX1_heldSet := in_X1_heldSet
  have hl_holds : ml_holds ∈ wsX1_heldSet := by decide +kernel
  refine lv_iconst (v := 0) hx hb dX1_heldSet_0 (by decide) ?_
  refine lv_istore_n (lv' := [(1, .int 0), (0, .ref h0)]) hx hb dX1_heldSet_1 rfl hl (by decide) rfl (fun ls hl => ?_)
  refine lv_iconst (v := 0) hx hb dX1_heldSet_2 (by decide) ?_
  refine lv_istore_n (lv' := [(2, .int 0), (1, .int 0), (0, .ref h0)]) hx hb dX1_heldSet_3 rfl hl (by decide) rfl (fun ls hl => ?_)
  have loop4 : ∀ (n k : Nat), k ≤ 6 → 6 + 1 ≤ k + n → ∀ ls, lv_has ls 3 [(0, .ref h0), (1, .int (x_held (σ.2 14) k)), (2, .int (nI k))] → q_G p l e ({ frames := 0, cells := 0, slots := 0, locals := 0 } : Room) s m ([.ref h0] : List Value).toArray below meth c (some (.int (x_held (σ.2 14) 6))) (F0 m 4 ls []) := by
    intro n
    induction n with
    | zero => intro k h1 h2; omega
    | succ n ihk =>
      intro k hk_k hn_k   ls hl
      refine lv_iload_n hx hb dX1_heldSet_4 rfl (lv_at hl 2 rfl) ?_
      refine lv_bipush (v := 6) hx hb dX1_heldSet_5 (by decide) ?_
      refine lv_icmp_ge (tgt := 25) hx hb dX1_heldSet_7 (by decide) (fun c7 => ?_) (fun c7 => ?_)
      · have hkn : k = 6 := Nat.le_antisymm hk_k (ge_t (n := 6) rfl (by omega) (by omega) c7)
        refine lv_iload_n hx hb dX1_heldSet_25 rfl (lv_at hl 1 rfl) ?_
        exact q_iret hx hb hr hlocks (by rw [hkn]) dX1_heldSet_26
      · have hkn : k < 6 := ge_f (n := 6) rfl (by omega) c7
        refine lv_iload_n hx hb dX1_heldSet_10 rfl (lv_at hl 1 rfl) ?_
        refine lv_aload_n hx hb dX1_heldSet_11 rfl (lv_at hl 0 rfl) ?_
        refine mg_holds hx hb hts hin hown hK hP hl_holds dX1_heldSet_12 ?_
        refine lv_iload_n hx hb dX1_heldSet_15 rfl (lv_at hl 2 rfl) ?_
        refine mr_holds (j := k) hx hb hK hP (by omega) dX1_heldSet_16 ?_
        refine lv_ior hx hb dX1_heldSet_17 ?_
        refine lv_istore_n (lv' := [(1, .int ((x_held (σ.2 14) k) ||| (σ.2 14 k))), (0, .ref h0), (2, .int (nI k))]) hx hb dX1_heldSet_18 rfl hl (by decide) rfl (fun ls hl => ?_)
        refine lv_iinc (v := (nI k) + 1) (lv' := [(2, .int ((nI k) + 1)), (1, .int ((x_held (σ.2 14) k) ||| (σ.2 14 k))), (0, .ref h0)]) hx hb dX1_heldSet_19 hl (k := 2) rfl rfl (by decide) rfl (fun ls hl => ?_)
        refine lv_goto (tgt := 4) hx hb dX1_heldSet_22 (by decide) ?_
        exact ihk (k + 1) (by omega) (by omega)   _ (lv_to (L := [(0, .ref h0), (1, .int ((x_held (σ.2 14) k) ||| (σ.2 14 k))), (2, .int ((nI k) + 1))]) (lv_sub hl [2, 1, 0] rfl) (lv_cr (lv_ci (rfl) (lv_ci (nI_1 k) rfl))))
  exact loop4 (6 + 1) 0 (by omega) (by omega)   _ (lv_to (L := [(0, .ref h0), (1, .int 0), (2, .int 0)]) (lv_sub hl [2, 1, 0] rfl) (lv_cr (lv_ci (rfl) (lv_ci (rfl) rfl))))
theorem k_X1_heldSet {p : Program} {l : Launch} {e : Env} {R : Room} {s : State} {m : MethodId} {args : Array Value} {below : List Frame} {meth : Method} {c : Code} {H : Heap} {locs : List Loc} {cells slots : Nat} {Q : State → Prop} {cc : ByteArray} {pc : Nat} {ls : Array Slot} {rest : List Value} {Ts : List Cond} (D : va_G) (tI tZ tL : ClassId) (h0 : Nat) (ad : Nat → Nat) (σ : ST)  {own : String} {idx nL : Nat} (S : CallFix p m c cc nL s args Ts own) (hG : GoodIn Ts (wsV own idx RX1 yX1_heldSet wsX1_heldSet)) (hR : ({ frames := 0, cells := 0, slots := 0, locals := 0 } : Room).frames + 1 ≤ R.frames ∧ 8 + (3 + 11) + ({ frames := 0, cells := 0, slots := 0, locals := 0 } : Room).locals ≤ R.locals) (hsz : ls.size = nL) (hcap : cells ≤ R.cells ∧ slots ≤ R.slots) (hrm : (rest.map fun v => v.category).sum ≤ 8) (hK : va_K D vwCl (kTY tI tZ tL) s) (hP : va_P D vwCl (m_W tI tZ h0 ad σ) H) (hdg : decode cc pc = .ok (.invokevirtual idx, 3)) (kk : W p l e R s m args below meth c H locs cells slots Q (F0 m (pc + 3) ls (.int (x_held (σ.2 14) 6) :: rest))) : W p l e R s m args below meth c H locs cells slots Q (F0 m pc ls (.ref h0 :: rest)) :=
  q_call (va_runV (As := []) (rest := rest) S (c_X1_heldSet l D tI tZ tL h0 ad σ ) (cwV 0 S.2.2.2.2 hG rfl rfl rfl (by decide +kernel) hR) (m_pre hK hP) rfl rfl hsz rfl (lv_room hrm) hdg hcap) kk

set_option maxHeartbeats 4000000 in
set_option maxRecDepth 100000 in
theorem c_X1_kept (l : Launch) (D : va_G) (tI tZ tL : ClassId) (h0 : Nat) (ad : Nat → Nat) (σ : ST) (r : Nat) (nr : Nat) (hnr : σ.1 7 = nI nr) (hn30 : nr ≤ 30) (hrn : r < nr) : Met l yX1_kept wsX1_kept ({ frames := 2, cells := 0, slots := 0, locals := 44 } : Room) (va_Pc ([.ref h0, .int (nI r)] : List Value) (m_B D tI tZ tL h0 ad σ)) (q_Q (some (.int (m_kept σ.2 nr r)))) 0 0 q_no := by
  refine q_met (cc := cX1_kept) (maxL := 5) (ret := (some .int)) (by decide) rfl (Nat.le_of_ble_eq_true rfl) ?_
  intro p e s m below meth c hx hb hml hr hts hown hlocks hB ls hl
  have hown : s.vm.findClass RX1 = some m.cls := hown
  obtain ⟨hP, hK⟩ := hB
  have hl : lv_has ls 5 [(0, .ref h0), (1, .int (nI r))] := hl
  have hin : ∀ w ∈ wsX10, w ∈ wsX1_kept := in_X1_kept
  have hl_many : ml_many ∈ wsX1_kept := by decide +kernel
  have hl_state : ml_state ∈ wsX1_kept := by decide +kernel
  refine lv_aload_n hx hb dX1_kept_0 rfl (lv_at hl 0 rfl) ?_
  refine mg_state hx hb hts hin hown hK hP hl_state dX1_kept_1 ?_
  refine lv_iload_n hx hb dX1_kept_4 rfl (lv_at hl 1 rfl) ?_
  refine mr_state (j := r) hx hb hK hP (by omega) dX1_kept_5 ?_
  refine lv_iconst (v := 1) hx hb dX1_kept_6 (by decide) ?_
  refine lv_icmp_eq (tgt := 26) hx hb dX1_kept_7 (by decide) (fun c7 => ?_) (fun c7 => ?_)
  · refine lv_aload_n hx hb dX1_kept_26 rfl (lv_at hl 0 rfl) ?_
    refine k_X1_heldSet D tI tZ tL h0 ad σ  ⟨hx, hb, hml, hown, hts⟩ gX1_kept_X1_heldSet ⟨Nat.le_of_ble_eq_true rfl, Nat.le_of_ble_eq_true rfl⟩ hl.1 ⟨Nat.zero_le _, Nat.zero_le _⟩ (Nat.le_of_ble_eq_true rfl) hK hP dX1_kept_27 ?_
    refine lv_iload_n hx hb dX1_kept_30 rfl (lv_at hl 1 rfl) ?_
    refine k_X1_has (x_held (σ.2 14) 6) r (by omega) ⟨hx, hb, hml, hown, hts⟩ gX1_kept_X1_has ⟨Nat.le_of_ble_eq_true rfl, Nat.le_of_ble_eq_true rfl⟩ hl.1 ⟨Nat.zero_le _, Nat.zero_le _⟩ (Nat.le_of_ble_eq_true rfl) dX1_kept_31 ?_
    refine lv_ifeq_b (tgt := 39) hx hb dX1_kept_34 (by decide) (fun c34 => ?_) (fun c34 => ?_)
    · refine lv_aload_n hx hb dX1_kept_39 rfl (lv_at hl 0 rfl) ?_
      refine lv_iload_n hx hb dX1_kept_40 rfl (lv_at hl 1 rfl) ?_
      refine k_X1_belowOf D tI tZ tL h0 ad σ r nr hnr hn30 hrn ⟨hx, hb, hml, hown, hts⟩ gX1_kept_X1_belowOf ⟨Nat.le_of_ble_eq_true rfl, Nat.le_of_ble_eq_true rfl⟩ hl.1 ⟨Nat.zero_le _, Nat.zero_le _⟩ (Nat.le_of_ble_eq_true rfl) hK hP dX1_kept_41 ?_
      refine lv_istore_n (lv' := [(2, .int (m_belk (σ.2 9) r nr)), (0, .ref h0), (1, .int (nI r))]) hx hb dX1_kept_44 rfl hl (by decide) rfl (fun ls hl => ?_)
      refine lv_iconst (v := 0) hx hb dX1_kept_45 (by decide) ?_
      refine lv_istore_n (lv' := [(3, .int 0), (2, .int (m_belk (σ.2 9) r nr)), (0, .ref h0), (1, .int (nI r))]) hx hb dX1_kept_46 rfl hl (by decide) rfl (fun ls hl => ?_)
      refine lv_iload_n hx hb dX1_kept_47 rfl (lv_at hl 3 rfl) ?_
      refine lv_iconst (v := 1) hx hb dX1_kept_48 (by decide) ?_
      refine lv_iadd hx hb dX1_kept_49 ?_
      refine lv_istore (lv' := [(4, .int ((nI r) + 1)), (3, .int 0), (2, .int (m_belk (σ.2 9) r nr)), (0, .ref h0), (1, .int (nI r))]) hx hb dX1_kept_50 hl (by decide) rfl (fun ls hl => ?_)
      have loop52 : ∀ (n k : Nat), k ≤ nr → nr + 1 ≤ k + n → (hrk : r + 1 ≤ k) → ∀ ls, lv_has ls 5 [(0, .ref h0), (2, .int (m_belk (σ.2 9) r nr)), (3, .int (m_kpf (σ.2 12) (m_belk (σ.2 9) r nr) r k)), (4, .int (nI k))] → q_G p l e ({ frames := 2, cells := 0, slots := 0, locals := 44 } : Room) s m ([.ref h0, .int (nI r)] : List Value).toArray below meth c (some (.int (m_kept σ.2 nr r))) (F0 m 52 ls []) := by
        intro n
        induction n with
        | zero => intro k h1 h2; omega
        | succ n ihk =>
          intro k hk_k hn_k  hrk ls hl
          refine lv_iload hx hb dX1_kept_52 (lv_at hl 3 rfl) ?_
          refine lv_aload_n hx hb dX1_kept_54 rfl (lv_at hl 0 rfl) ?_
          refine mg_many hx hb hts hin hown hK hP hl_many dX1_kept_55 ?_
          refine lv_icmp_ge (tgt := 93) hx hb dX1_kept_58 (by decide) (fun c58 => ?_) (fun c58 => ?_)
          · have hkn : k = nr := Nat.le_antisymm hk_k (ge_t hnr (by omega) (by omega) c58)
            refine lv_iload_n hx hb dX1_kept_93 rfl (lv_at hl 2 rfl) ?_
            exact q_iret hx hb hr hlocks (by rw [hkn, m_kept, if_neg (fun h => h c7), if_neg (by rw [c34]; decide)]) dX1_kept_94
          · have hkn : k < nr := ge_f hnr (by omega) c58
            refine lv_iload_n hx hb dX1_kept_61 rfl (lv_at hl 1 rfl) ?_
            refine lv_iload hx hb dX1_kept_62 (lv_at hl 3 rfl) ?_
            refine k_X1_has (m_belk (σ.2 9) r nr) k (by omega) ⟨hx, hb, hml, hown, hts⟩ gX1_kept_X1_has ⟨Nat.le_of_ble_eq_true rfl, Nat.le_of_ble_eq_true rfl⟩ hl.1 ⟨Nat.zero_le _, Nat.zero_le _⟩ (Nat.le_of_ble_eq_true rfl) dX1_kept_64 ?_
            refine lv_ifeq_b (tgt := 85) hx hb dX1_kept_67 (by decide) (fun c67 => ?_) (fun c67 => ?_)
            · refine lv_iload_n hx hb dX1_kept_85 rfl (lv_at hl 2 rfl) ?_
              refine lv_istore_n (lv' := [(3, .int (m_kpf (σ.2 12) (m_belk (σ.2 9) r nr) r k)), (0, .ref h0), (2, .int (m_belk (σ.2 9) r nr)), (4, .int (nI k))]) hx hb dX1_kept_86 rfl hl (by decide) rfl (fun ls hl => ?_)
              refine lv_iinc (v := (nI k) + 1) (lv' := [(4, .int ((nI k) + 1)), (3, .int (m_kpf (σ.2 12) (m_belk (σ.2 9) r nr) r k)), (0, .ref h0), (2, .int (m_belk (σ.2 9) r nr))]) hx hb dX1_kept_87 hl (k := 3) rfl rfl (by decide) rfl (fun ls hl => ?_)
              refine lv_goto (tgt := 52) hx hb dX1_kept_90 (by decide) ?_
              exact ihk (k + 1) (by omega) (by omega)  (by omega) _ (lv_to (L := [(0, .ref h0), (2, .int (m_belk (σ.2 9) r nr)), (3, .int (m_kpf (σ.2 12) (m_belk (σ.2 9) r nr) r k)), (4, .int ((nI k) + 1))]) (lv_sub hl [2, 3, 1, 0] rfl) (lv_cr (lv_cr (lv_ci (by rw [m_kpf, if_neg (fun h => by rw [c67] at h; cases h.2.1)]) (lv_ci (nI_1 k) rfl)))))
            · refine lv_aload_n hx hb dX1_kept_70 rfl (lv_at hl 0 rfl) ?_
              refine mg_state hx hb hts hin hown hK hP hl_state dX1_kept_71 ?_
              refine lv_iload hx hb dX1_kept_74 (lv_at hl 3 rfl) ?_
              refine mr_state (j := k) hx hb hK hP (by omega) dX1_kept_76 ?_
              refine lv_iconst (v := 2) hx hb dX1_kept_77 (by decide) ?_
              refine lv_icmp_eq (tgt := 85) hx hb dX1_kept_78 (by decide) (fun c78 => ?_) (fun c78 => ?_)
              · refine lv_iload_n hx hb dX1_kept_85 rfl (lv_at hl 2 rfl) ?_
                refine lv_istore_n (lv' := [(3, .int (m_kpf (σ.2 12) (m_belk (σ.2 9) r nr) r k)), (0, .ref h0), (2, .int (m_belk (σ.2 9) r nr)), (4, .int (nI k))]) hx hb dX1_kept_86 rfl hl (by decide) rfl (fun ls hl => ?_)
                refine lv_iinc (v := (nI k) + 1) (lv' := [(4, .int ((nI k) + 1)), (3, .int (m_kpf (σ.2 12) (m_belk (σ.2 9) r nr) r k)), (0, .ref h0), (2, .int (m_belk (σ.2 9) r nr))]) hx hb dX1_kept_87 hl (k := 3) rfl rfl (by decide) rfl (fun ls hl => ?_)
                refine lv_goto (tgt := 52) hx hb dX1_kept_90 (by decide) ?_
                exact ihk (k + 1) (by omega) (by omega)  (by omega) _ (lv_to (L := [(0, .ref h0), (2, .int (m_belk (σ.2 9) r nr)), (3, .int (m_kpf (σ.2 12) (m_belk (σ.2 9) r nr) r k)), (4, .int ((nI k) + 1))]) (lv_sub hl [2, 3, 1, 0] rfl) (lv_cr (lv_cr (lv_ci (by rw [m_kpf, if_neg (fun h => h.2.2 c78)]) (lv_ci (nI_1 k) rfl)))))
              · refine lv_iconst (v := 4) hx hb dX1_kept_81 (by decide) ?_
                refine lv_goto (tgt := 86) hx hb dX1_kept_82 (by decide) ?_
                refine lv_istore_n (lv' := [(3, .int 4), (0, .ref h0), (2, .int (m_belk (σ.2 9) r nr)), (4, .int (nI k))]) hx hb dX1_kept_86 rfl hl (by decide) rfl (fun ls hl => ?_)
                refine lv_iinc (v := (nI k) + 1) (lv' := [(4, .int ((nI k) + 1)), (3, .int 4), (0, .ref h0), (2, .int (m_belk (σ.2 9) r nr))]) hx hb dX1_kept_87 hl (k := 3) rfl rfl (by decide) rfl (fun ls hl => ?_)
                refine lv_goto (tgt := 52) hx hb dX1_kept_90 (by decide) ?_
                exact ihk (k + 1) (by omega) (by omega)  (by omega) _ (lv_to (L := [(0, .ref h0), (2, .int (m_belk (σ.2 9) r nr)), (3, .int 4), (4, .int ((nI k) + 1))]) (lv_sub hl [2, 3, 1, 0] rfl) (lv_cr (lv_cr (lv_ci (by rw [m_kpf, if_pos ⟨by omega, c67, c78⟩]) (lv_ci (nI_1 k) rfl)))))
      exact loop52 (nr + 1) (r + 1) (by omega) (by omega)  (Nat.le_refl _) _ (lv_to (L := [(0, .ref h0), (2, .int (m_belk (σ.2 9) r nr)), (3, .int 0), (4, .int ((nI r) + 1))]) (lv_sub hl [3, 2, 1, 0] rfl) (lv_cr (lv_cr (lv_ci ((m_kpf_lo _ (Nat.le_refl _)).symm) (lv_ci (nI_1 r) rfl)))))
    · refine lv_iconst (v := 3) hx hb dX1_kept_37 (by decide) ?_
      exact q_iret hx hb hr hlocks (by rw [m_kept, if_neg (fun h => h c7), if_pos c34]) dX1_kept_38
  · refine lv_aload_n hx hb dX1_kept_10 rfl (lv_at hl 0 rfl) ?_
    refine mg_state hx hb hts hin hown hK hP hl_state dX1_kept_11 ?_
    refine lv_iload_n hx hb dX1_kept_14 rfl (lv_at hl 1 rfl) ?_
    refine mr_state (j := r) hx hb hK hP (by omega) dX1_kept_15 ?_
    refine lv_iconst (v := 2) hx hb dX1_kept_16 (by decide) ?_
    refine lv_icmp_ne (tgt := 24) hx hb dX1_kept_17 (by decide) (fun c17 => ?_) (fun c17 => ?_)
    · refine lv_iconst (v := 2) hx hb dX1_kept_24 (by decide) ?_
      exact q_iret hx hb hr hlocks (by rw [m_kept, if_pos c7, if_neg c17]) dX1_kept_25
    · refine lv_iconst (v := 1) hx hb dX1_kept_20 (by decide) ?_
      refine lv_goto (tgt := 25) hx hb dX1_kept_21 (by decide) ?_
      exact q_iret hx hb hr hlocks (by rw [m_kept, if_pos c7, if_pos c17]) dX1_kept_25
theorem k_X1_kept {p : Program} {l : Launch} {e : Env} {R : Room} {s : State} {m : MethodId} {args : Array Value} {below : List Frame} {meth : Method} {c : Code} {H : Heap} {locs : List Loc} {cells slots : Nat} {Q : State → Prop} {cc : ByteArray} {pc : Nat} {ls : Array Slot} {rest : List Value} {Ts : List Cond} (D : va_G) (tI tZ tL : ClassId) (h0 : Nat) (ad : Nat → Nat) (σ : ST) (r : Nat) (nr : Nat) (hnr : σ.1 7 = nI nr) (hn30 : nr ≤ 30) (hrn : r < nr) {own : String} {idx nL : Nat} (S : CallFix p m c cc nL s args Ts own) (hG : GoodIn Ts (wsV own idx RX1 yX1_kept wsX1_kept)) (hR : ({ frames := 2, cells := 0, slots := 0, locals := 44 } : Room).frames + 1 ≤ R.frames ∧ 8 + (5 + 11) + ({ frames := 2, cells := 0, slots := 0, locals := 44 } : Room).locals ≤ R.locals) (hsz : ls.size = nL) (hcap : cells ≤ R.cells ∧ slots ≤ R.slots) (hrm : (rest.map fun v => v.category).sum ≤ 8) (hK : va_K D vwCl (kTY tI tZ tL) s) (hP : va_P D vwCl (m_W tI tZ h0 ad σ) H) (hdg : decode cc pc = .ok (.invokevirtual idx, 3)) (kk : W p l e R s m args below meth c H locs cells slots Q (F0 m (pc + 3) ls (.int (m_kept σ.2 nr r) :: rest))) : W p l e R s m args below meth c H locs cells slots Q (F0 m pc ls (.int (nI r) :: .ref h0 :: rest)) :=
  q_call (va_runV (As := [.int (nI r)]) (rest := rest) S (c_X1_kept l D tI tZ tL h0 ad σ r nr hnr hn30 hrn) (cwV 1 S.2.2.2.2 hG rfl rfl rfl (by decide +kernel) hR) (m_pre hK hP) rfl rfl hsz rfl (lv_room hrm) hdg hcap) kk

set_option maxHeartbeats 4000000 in
set_option maxRecDepth 100000 in
theorem c_X1_tracesOf (l : Launch) (D : va_G) (tI tZ tL : ClassId) (h0 : Nat) (ad : Nat → Nat) (σ : ST) (j : Nat) (hj12 : j < 12) (nr : Nat) (hnr : σ.1 7 = nI nr) (hn30 : nr ≤ 30)  : Met l yX1_tracesOf wsX1_tracesOf ({ frames := 3, cells := 0, slots := 0, locals := 68 } : Room) (va_Pc ([.ref h0, .int (nI j)] : List Value) (m_B D tI tZ tL h0 ad σ)) (q_Q (some (.int (m_trc σ.2 j nr)))) 0 0 q_no := by
  refine q_met (cc := cX1_tracesOf) (maxL := 4) (ret := (some .int)) (by decide) rfl (Nat.le_of_ble_eq_true rfl) ?_
  intro p e s m below meth c hx hb hml hr hts hown hlocks hB ls hl
  have hown : s.vm.findClass RX1 = some m.cls := hown
  obtain ⟨hP, hK⟩ := hB
  have hl : lv_has ls 4 [(0, .ref h0), (1, .int (nI j))] := hl
  have hin : ∀ w ∈ wsX10, w ∈ wsX1_tracesOf := in_X1_tracesOf
  have hl_many : ml_many ∈ wsX1_tracesOf := by decide +kernel
  have hl_state : ml_state ∈ wsX1_tracesOf := by decide +kernel
  refine lv_iconst (v := 0) hx hb dX1_tracesOf_0 (by decide) ?_
  refine lv_istore_n (lv' := [(2, .int 0), (0, .ref h0), (1, .int (nI j))]) hx hb dX1_tracesOf_1 rfl hl (by decide) rfl (fun ls hl => ?_)
  refine lv_iconst (v := 0) hx hb dX1_tracesOf_2 (by decide) ?_
  refine lv_istore_n (lv' := [(3, .int 0), (2, .int 0), (0, .ref h0), (1, .int (nI j))]) hx hb dX1_tracesOf_3 rfl hl (by decide) rfl (fun ls hl => ?_)
  have loop4 : ∀ (n k : Nat), k ≤ nr → nr + 1 ≤ k + n → ∀ ls, lv_has ls 4 [(0, .ref h0), (1, .int (nI j)), (2, .int (m_trc σ.2 j k)), (3, .int (nI k))] → q_G p l e ({ frames := 3, cells := 0, slots := 0, locals := 68 } : Room) s m ([.ref h0, .int (nI j)] : List Value).toArray below meth c (some (.int (m_trc σ.2 j nr))) (F0 m 4 ls []) := by
    intro n
    induction n with
    | zero => intro k h1 h2; omega
    | succ n ihk =>
      intro k hk_k hn_k   ls hl
      refine lv_iload_n hx hb dX1_tracesOf_4 rfl (lv_at hl 3 rfl) ?_
      refine lv_aload_n hx hb dX1_tracesOf_5 rfl (lv_at hl 0 rfl) ?_
      refine mg_many hx hb hts hin hown hK hP hl_many dX1_tracesOf_6 ?_
      refine lv_icmp_ge (tgt := 50) hx hb dX1_tracesOf_9 (by decide) (fun c9 => ?_) (fun c9 => ?_)
      · have hkn : k = nr := Nat.le_antisymm hk_k (ge_t hnr (by omega) (by omega) c9)
        refine lv_iload_n hx hb dX1_tracesOf_50 rfl (lv_at hl 2 rfl) ?_
        exact q_iret hx hb hr hlocks (by rw [hkn]) dX1_tracesOf_51
      · have hkn : k < nr := ge_f hnr (by omega) c9
        refine lv_iload_n hx hb dX1_tracesOf_12 rfl (lv_at hl 2 rfl) ?_
        refine lv_aload_n hx hb dX1_tracesOf_13 rfl (lv_at hl 0 rfl) ?_
        refine mg_state hx hb hts hin hown hK hP hl_state dX1_tracesOf_14 ?_
        refine lv_iload_n hx hb dX1_tracesOf_17 rfl (lv_at hl 3 rfl) ?_
        refine mr_state (j := k) hx hb hK hP (by omega) dX1_tracesOf_18 ?_
        refine lv_iconst (v := 2) hx hb dX1_tracesOf_19 (by decide) ?_
        refine lv_icmp_eq (tgt := 41) hx hb dX1_tracesOf_20 (by decide) (fun c20 => ?_) (fun c20 => ?_)
        · refine lv_iconst (v := 0) hx hb dX1_tracesOf_41 (by decide) ?_
          refine lv_ior hx hb dX1_tracesOf_42 ?_
          refine lv_istore_n (lv' := [(2, .int ((m_trc σ.2 j k) ||| 0)), (0, .ref h0), (1, .int (nI j)), (3, .int (nI k))]) hx hb dX1_tracesOf_43 rfl hl (by decide) rfl (fun ls hl => ?_)
          refine lv_iinc (v := (nI k) + 1) (lv' := [(3, .int ((nI k) + 1)), (2, .int ((m_trc σ.2 j k) ||| 0)), (0, .ref h0), (1, .int (nI j))]) hx hb dX1_tracesOf_44 hl (k := 3) rfl rfl (by decide) rfl (fun ls hl => ?_)
          refine lv_goto (tgt := 4) hx hb dX1_tracesOf_47 (by decide) ?_
          exact ihk (k + 1) (by omega) (by omega)   _ (lv_to (L := [(0, .ref h0), (1, .int (nI j)), (2, .int ((m_trc σ.2 j k) ||| 0)), (3, .int ((nI k) + 1))]) (lv_sub hl [2, 3, 1, 0] rfl) (lv_cr (lv_cr (lv_ci (by rw [or0, m_trc, if_neg (fun h => h.1 c20)]) (lv_ci (nI_1 k) rfl)))))
        · refine lv_aload_n hx hb dX1_tracesOf_23 rfl (lv_at hl 0 rfl) ?_
          refine lv_iload_n hx hb dX1_tracesOf_24 rfl (lv_at hl 3 rfl) ?_
          refine k_X1_subjects D tI tZ tL h0 ad σ k (by omega) ⟨hx, hb, hml, hown, hts⟩ gX1_tracesOf_X1_subjects ⟨Nat.le_of_ble_eq_true rfl, Nat.le_of_ble_eq_true rfl⟩ hl.1 ⟨Nat.zero_le _, Nat.zero_le _⟩ (Nat.le_of_ble_eq_true rfl) hK hP dX1_tracesOf_25 ?_
          refine lv_iload_n hx hb dX1_tracesOf_28 rfl (lv_at hl 1 rfl) ?_
          refine k_X1_has (m_subj σ.2 k) j (by omega) ⟨hx, hb, hml, hown, hts⟩ gX1_tracesOf_X1_has ⟨Nat.le_of_ble_eq_true rfl, Nat.le_of_ble_eq_true rfl⟩ hl.1 ⟨Nat.zero_le _, Nat.zero_le _⟩ (Nat.le_of_ble_eq_true rfl) dX1_tracesOf_29 ?_
          refine lv_ifeq_b (tgt := 41) hx hb dX1_tracesOf_32 (by decide) (fun c32 => ?_) (fun c32 => ?_)
          · refine lv_iconst (v := 0) hx hb dX1_tracesOf_41 (by decide) ?_
            refine lv_ior hx hb dX1_tracesOf_42 ?_
            refine lv_istore_n (lv' := [(2, .int ((m_trc σ.2 j k) ||| 0)), (0, .ref h0), (1, .int (nI j)), (3, .int (nI k))]) hx hb dX1_tracesOf_43 rfl hl (by decide) rfl (fun ls hl => ?_)
            refine lv_iinc (v := (nI k) + 1) (lv' := [(3, .int ((nI k) + 1)), (2, .int ((m_trc σ.2 j k) ||| 0)), (0, .ref h0), (1, .int (nI j))]) hx hb dX1_tracesOf_44 hl (k := 3) rfl rfl (by decide) rfl (fun ls hl => ?_)
            refine lv_goto (tgt := 4) hx hb dX1_tracesOf_47 (by decide) ?_
            exact ihk (k + 1) (by omega) (by omega)   _ (lv_to (L := [(0, .ref h0), (1, .int (nI j)), (2, .int ((m_trc σ.2 j k) ||| 0)), (3, .int ((nI k) + 1))]) (lv_sub hl [2, 3, 1, 0] rfl) (lv_cr (lv_cr (lv_ci (by rw [or0, m_trc, if_neg (fun h => by rw [c32] at h; cases h.2)]) (lv_ci (nI_1 k) rfl)))))
          · refine lv_iconst (v := 1) hx hb dX1_tracesOf_35 (by decide) ?_
            refine lv_iload_n hx hb dX1_tracesOf_36 rfl (lv_at hl 3 rfl) ?_
            refine lv_ishl hx hb dX1_tracesOf_37 ?_
            refine lv_goto (tgt := 42) hx hb dX1_tracesOf_38 (by decide) ?_
            refine lv_ior hx hb dX1_tracesOf_42 ?_
            refine lv_istore_n (lv' := [(2, .int ((m_trc σ.2 j k) ||| (1 <<< ((nI k) &&& 31)))), (0, .ref h0), (1, .int (nI j)), (3, .int (nI k))]) hx hb dX1_tracesOf_43 rfl hl (by decide) rfl (fun ls hl => ?_)
            refine lv_iinc (v := (nI k) + 1) (lv' := [(3, .int ((nI k) + 1)), (2, .int ((m_trc σ.2 j k) ||| (1 <<< ((nI k) &&& 31)))), (0, .ref h0), (1, .int (nI j))]) hx hb dX1_tracesOf_44 hl (k := 3) rfl rfl (by decide) rfl (fun ls hl => ?_)
            refine lv_goto (tgt := 4) hx hb dX1_tracesOf_47 (by decide) ?_
            exact ihk (k + 1) (by omega) (by omega)   _ (lv_to (L := [(0, .ref h0), (1, .int (nI j)), (2, .int ((m_trc σ.2 j k) ||| (1 <<< ((nI k) &&& 31)))), (3, .int ((nI k) + 1))]) (lv_sub hl [2, 3, 1, 0] rfl) (lv_cr (lv_cr (lv_ci (by rw [m_trc, if_pos ⟨c20, c32⟩]; rfl) (lv_ci (nI_1 k) rfl)))))
  exact loop4 (nr + 1) 0 (by omega) (by omega)   _ (lv_to (L := [(0, .ref h0), (1, .int (nI j)), (2, .int 0), (3, .int 0)]) (lv_sub hl [2, 3, 1, 0] rfl) (lv_cr (lv_cr (lv_ci (rfl) (lv_ci (rfl) rfl)))))
theorem k_X1_tracesOf {p : Program} {l : Launch} {e : Env} {R : Room} {s : State} {m : MethodId} {args : Array Value} {below : List Frame} {meth : Method} {c : Code} {H : Heap} {locs : List Loc} {cells slots : Nat} {Q : State → Prop} {cc : ByteArray} {pc : Nat} {ls : Array Slot} {rest : List Value} {Ts : List Cond} (D : va_G) (tI tZ tL : ClassId) (h0 : Nat) (ad : Nat → Nat) (σ : ST) (j : Nat) (hj12 : j < 12) (nr : Nat) (hnr : σ.1 7 = nI nr) (hn30 : nr ≤ 30)  {own : String} {idx nL : Nat} (S : CallFix p m c cc nL s args Ts own) (hG : GoodIn Ts (wsV own idx RX1 yX1_tracesOf wsX1_tracesOf)) (hR : ({ frames := 3, cells := 0, slots := 0, locals := 68 } : Room).frames + 1 ≤ R.frames ∧ 8 + (4 + 11) + ({ frames := 3, cells := 0, slots := 0, locals := 68 } : Room).locals ≤ R.locals) (hsz : ls.size = nL) (hcap : cells ≤ R.cells ∧ slots ≤ R.slots) (hrm : (rest.map fun v => v.category).sum ≤ 8) (hK : va_K D vwCl (kTY tI tZ tL) s) (hP : va_P D vwCl (m_W tI tZ h0 ad σ) H) (hdg : decode cc pc = .ok (.invokevirtual idx, 3)) (kk : W p l e R s m args below meth c H locs cells slots Q (F0 m (pc + 3) ls (.int (m_trc σ.2 j nr) :: rest))) : W p l e R s m args below meth c H locs cells slots Q (F0 m pc ls (.int (nI j) :: .ref h0 :: rest)) :=
  q_call (va_runV (As := [.int (nI j)]) (rest := rest) S (c_X1_tracesOf l D tI tZ tL h0 ad σ j hj12 nr hnr hn30) (cwV 1 S.2.2.2.2 hG rfl rfl rfl (by decide +kernel) hR) (m_pre hK hP) rfl rfl hsz rfl (lv_room hrm) hdg hcap) kk

