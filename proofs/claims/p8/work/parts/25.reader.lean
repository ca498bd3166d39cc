theorem zz_25_reader : True := trivial
