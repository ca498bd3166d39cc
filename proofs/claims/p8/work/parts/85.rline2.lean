theorem zz_85_rline2 : True := trivial
